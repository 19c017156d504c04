/-! the least list: the reference; leastList -/
/-- rows that differ in the first w used flags alone -/
def OF_ (v u : Nat → Int) (w : Nat) : Prop := ∀ k, ¬ (606 ≤ k ∧ (k - 606) % 7 = 0 ∧ (k - 606) / 7 < w) → u k = v k
section
variable {M B : Mem_m} {v u : Nat → Int} {c : Int} {us w : Nat}
theorem OF_vz (h : OF_ v u w) (h1 : 0 ≤ c) (h2 : c < 40) : vz_ u c = vz_ v c := h _ (by omega)
theorem OF_nz (h : OF_ v u w) {x : Int} : nz_ u x = nz_ v x := h _ (by omega)
theorem OF_nk (h : OF_ v u w) {x : Int} : nk_ u x = nk_ v x := h _ (by omega)
theorem OF_nw (h : OF_ v u w) {x : Int} : nw_ u x = nw_ v x := by unfold nw_; rw [OF_nk h, OF_nz h]
theorem OF_cn (h : OF_ v u w) (hw : w ≤ 10) (h1 : 0 ≤ c) (h2 : c < 40) : cn_ u c ↔ cn_ v c := by
  have e1 : vf_ u c 13 = vf_ v c 13 := h _ (by omega)
  have e2 : vf_ u c 14 = vf_ v c 14 := h _ (by omega)
  unfold cn_; rw [e1, e2]
theorem OF_Sn (h : OF_ v u w) (hN : Nb_ v) (hC : Cb_ v c) {n i : Nat} (hn : (n : Int) < v 1063) : Sn_ u c n i ↔ Sn_ v c n i := by
  have hz := hN n (by omega) hn
  have hc := hC.1
  have bz := hC.2.1
  unfold Sn_
  rw [OF_nw h, OF_vz h hc.1 hc.2, OF_nz h]
  constructor
  · rintro ⟨a, b⟩
    refine ⟨a, fun k k0 k1 => ?_⟩
    have e0 := Int.emod_nonneg k (show nz_ v n ≠ 0 by omega)
    have e1 := Int.emod_lt_of_pos k (show 0 < nz_ v n by omega)
    have := b k k0 k1
    have f1 : vs_ u c ((i : Int) + k) = vs_ v c ((i : Int) + k) := h _ (by omega)
    have f2 : ns_ u n (k % nz_ v n) = ns_ v n (k % nz_ v n) := h _ (by omega)
    rw [← f1, ← f2]; exact this
  · rintro ⟨a, b⟩
    refine ⟨a, fun k k0 k1 => ?_⟩
    have e0 := Int.emod_nonneg k (show nz_ v n ≠ 0 by omega)
    have e1 := Int.emod_lt_of_pos k (show 0 < nz_ v n by omega)
    have := b k k0 k1
    have f1 : vs_ u c ((i : Int) + k) = vs_ v c ((i : Int) + k) := h _ (by omega)
    have f2 : ns_ u n (k % nz_ v n) = ns_ v n (k % nz_ v n) := h _ (by omega)
    rw [f1, f2]; exact this
theorem OF_Gn (h : OF_ v u w) (hw : w ≤ 10) (hN : Nb_ v) (hC : Cb_ v c) : Gn_ u c us = Gn_ v c us := by
  funext i s
  apply propext
  have e63 : u 1063 = v 1063 := h _ (by omega)
  constructor
  · rintro ⟨m, g1, g2, g3, g4⟩
    rw [e63] at g1
    exact ⟨m, g1, g2, (OF_Sn h hN hC g1).mp g3, by rw [← OF_nw h]; exact g4⟩
  · rintro ⟨m, g1, g2, g3, g4⟩
    exact ⟨m, by rw [e63]; exact g1, g2, (OF_Sn h hN hC g1).mpr g3, by rw [OF_nw h]; exact g4⟩
theorem OF_cf (h : OF_ v u w) (hw : w ≤ 10) (hN : Nb_ v) (hC : Cb_ v c) : cf_ u c us = cf_ v c us := by
  unfold cf_
  rw [OF_Gn h hw hN hC, OF_vz h hC.1.1 hC.1.2]
theorem OF_Nb (h : OF_ v u w) (hw : w ≤ 10) (hN : Nb_ v) : Nb_ u := fun x h1 h2 => by
  rw [OF_nz h]
  exact hN x h1 (by rw [← h 1063 (by omega)]; exact h2)
theorem OF_Cb (h : OF_ v u w) (hC : Cb_ v c) : Cb_ u c := by
  have hc := hC.1
  have bz := hC.2.1
  refine ⟨hc, by rw [OF_vz h hc.1 hc.2]; exact bz, fun i h1 h2 => ?_⟩
  rw [OF_vz h hc.1 hc.2] at h2
  have f1 : vs_ u c i = vs_ v c i := h _ (by omega)
  rw [f1]; exact hC.2.2 i h1 h2
/-- all that is listed, told in -/
theorem m_listed (h62 : 0 ≤ v 1062 ∧ v 1062 ≤ 40) (h63 : 0 ≤ v 1063 ∧ v 1063 ≤ 16) (hN : Nb_ v) (hCC : ∀ c : Int, 0 ≤ c → c < v 1062 → Cb_ v c) (hO : OF_ v u w) (hw : w ≤ 10) (hB : B 593 = u) (hU : Ub_ u us)
    (hb : ∀ x : Int, 0 ≤ x → x < v 1062 → 0 ≤ cl_ v us x ∧ cl_ v us x ≤ 40) : ∃ B', f_X12_listed SH0_ B 592 = some (B', su_ (lf_ v us) (v 1063).toNat + su_ (cl_ v us) (v 1062).toNat) ∧ ∀ a, a ≠ 601 → a ≠ 602 → B' a = B a := by
  have e62 : u 1062 = v 1062 := hO _ (by omega)
  have e63 : u 1063 = v 1063 := hO _ (by omega)
  have hW : Mw B u := ⟨hB, by rw [e62]; exact h62, by rw [e63]; exact h63⟩
  have hul := hU.1
  have hlf := lf_sum (us := us) hN h63
  have step1 : f_X12_listed SH0_ B 592 = f_X12_listed_47 SH0_ 592 FU_ B (su_ (lf_ v us) (v 1063).toNat) 0 := by
    unfold f_X12_listed
    refine lp_sum (F := fun n a x => f_X12_listed_4 SH0_ B 592 n a x) (B := 10) (f := lf_ v us) (k := fun s => f_X12_listed_47 SH0_ 592 FU_ B s 0) (by omega) (fun x q1 q2 => lf_b hN q1 q2) (by omega) (fun n a x q1 q2 q3 q4 => ?_) (fun n a => ?_)
    · obtain ⟨k, rfl⟩ := int_nat q1
      have ek : ((k : Int)).toNat = k := by omega
      have eu := hU.2 k (by rw [e63]; exact q2)
      have hz := hN k q1 q2
      have el := m_len hW (x := (k : Int)) (by omega) (by omega) (by rw [OF_nz hO]; omega) (by rw [OF_nz hO]; omega)
      rw [OF_nk hO, OF_nz hO] at el
      have lb := ln_b (k := nk_ v k) hz
      have q2' : (k : Int) < u 1063 := by rw [e63]; exact q2
      rw [f_X12_listed_4]
      rcases b_c us k with b0 | b0
      · rw [b0] at eu
        have elf : lf_ v us (k : Int) = 0 := by unfold lf_; rw [ek, b_0.mp b0]; rfl
        simp (disch := omega) only [↓bqr_C, ↓bqr_D, ↓bqr_N2, ↓bqr_N3, ↓bqr_O, ↓bqr_Q, ↓bqr_W, ↓bqr_S1, ↓bqr_S4, ↓bqr_T2, ↓bqr_T3, ↓bqr_F, ↓bqr_H, ↓bqa_C, ↓bqa_N, ↓bqa_U, ↓bqa_Y, ↓bqa_W, ↓bqa_S, ↓bqgkC_1, ↓bqgkC_2, ↓bqgkC_3, ↓bqgkC_4, ↓bqgkC_5, ↓bqgkC_6, ↓bqgkD_1, ↓bqgkN_0, ↓bqgkN_1, ↓bqgkO_1, ↓bqgkQ_1, ↓bqgkW_1, ↓bqgkS_0, ↓bqgkS_2, ↓bqgkS_3, ↓bqgkT_0, ↓bqgkT_1, ↓bqgkF_1, ↓bqgkH_1, ↓bqgkU_0, ↓bqgkU_1, ↓bqgkU_2, ↓bqgkU_3, ↓bqgkU_4, ↓bqgkY_0, ↓bqgkY_1, ↓bqgkY_2, ↓bqikE_, ↓bqikP_, ↓bqikR_, ↓bqikX_, ↓bqikG_, ↓bqikI_, ↓bqikJ_, ↓bqvkC_, ↓bqvkD_, ↓bqvkN_, ↓bqvkO_, ↓bqvkQ_, ↓bqvkU_, ↓bqvkY_, ↓bqvkW_, ↓bqvkS_, ↓bqvkT_, ↓bqvkF_, ↓bqvkH_, ↓bqr_0_0, ↓bqr_0_1, ↓bqr_0_3, ↓bqr_0_4, ↓bqr_0_5, ↓bqr_0_6, ↓bqr_0_7, ↓bqr_0_8, ↓bqr_1_0, ↓bqr_1_1, ↓bqr_1_2, ↓bqr_1_3, ↓bqr_1_5, ↓bqr_1_8, ↓bqr_1_10, ↓bqr_1_12, ↓bqr_1_13, ↓bqr_518_0, ↓bqr_518_1, ↓bqr_518_2, ↓bqr_518_6, ↓bqr_518_7, ↓bqr_524_0, ↓bqr_524_2, ↓bqr_524_4, ↓bqr_528_0, ↓bqr_528_1, ↓bqr_531_0, ↓bqr_531_1, ↓bqr_531_3, ↓bqr_592_0, ↓bqr_592_1, ↓bqr_592_2, ↓bqr_592_3, ↓bqr_592_4, ↓bqr_592_5, ↓bqr_592_6, ↓bqr_592_7, ↓bqr_592_11, ↓bqr_592_12, ↓bqr_592_13, ↓bqr_592_17, ↓bqr_592_18, ↓bqr_592_19, ↓bqr_592_23, ↓bqr_592_26, ↓bqr_592_27, ↓bqr_592_28, ↓bqg_0_2, ↓bqg_1_4, ↓bqg_1_6, ↓bqg_1_7, ↓bqg_1_9, ↓bqg_1_11, ↓bqg_1_14, ↓bqg_518_3, ↓bqg_518_4, ↓bqg_518_5, ↓bqg_518_8, ↓bqg_518_9, ↓bqg_524_1, ↓bqg_524_3, ↓bqg_528_2, ↓bqg_528_3, ↓bqg_531_2, ↓bqg_535_0, ↓bqg_535_1, ↓bqg_535_2, ↓bqg_535_3, ↓bqg_535_4, ↓bqg_592_8, ↓bqg_592_9, ↓bqg_592_10, ↓bqg_592_14, ↓bqg_592_15, ↓bqg_592_16, ↓bqg_592_20, ↓bqg_592_21, ↓bqg_592_22, ↓bqg_592_24, ↓bqg_592_25, ↓bqg_592_29, ↓bqg_592_30, ↓bqg_592_31, ↓bqg_592_32, ↓bqv_0, ↓bqv_1, ↓bqv_259, ↓bqv_518, ↓bqv_524, ↓bqv_528, ↓bqv_531, ↓bqv_535, ↓bqv_592, ↓bqi_2, ↓bqi_3, ↓bqi_4, ↓bqi_10, ↓bqi_519, ↓bqi_520, ↓bqi_521, ↓bqi_522, ↓bqi_523, ↓bqi_525, ↓bqi_526, ↓bqi_527, ↓bqi_529, ↓bqi_530, ↓bqi_532, ↓bqi_533, ↓bqi_534, ↓bqi_593, ↓bqi_594, ↓bqi_595, ↓bqi_596, ↓bqi_597, ↓bqi_598, ↓bqi_599, ↓bqi_600, ↓bqi_601, ↓bqi_602, ↓bqi_603, ↓bqi_604, ↓bqi_605, ↓bqi_606, ↓bqi_608, ↓bqi_609, ↓bqi_610, ↓bqz_607, ↓Option.bind_some, ↓bc_isIn, ↓bm_isIn, ↓bm_isShelf, i01, i10, j01, if_true, if_false, not_true_eq_false, not_false_eq_true, and_true, true_and, and_self, false_and, and_false, ↓reduceIte, Int.reduceEq, Int.reduceLT, Int.reduceLE, Int.reduceNeg, Int.reduceAdd, Int.reduceSub, Int.reduceMul, Int.reduceNe, Int.reduceToNat, Nat.reduceAdd, Nat.reduceMul, Nat.reduceEqDiff, mw_at hW, q2', ↓bm_note6 hW, eu, wr_n, elf, Int.add_zero]
      · rw [b0] at eu
        have elf : lf_ v us (k : Int) = ln_ (nk_ v k) (nz_ v k) := by unfold lf_; rw [ek, b_1.mp b0]; rfl
        simp (disch := omega) only [↓bqr_C, ↓bqr_D, ↓bqr_N2, ↓bqr_N3, ↓bqr_O, ↓bqr_Q, ↓bqr_W, ↓bqr_S1, ↓bqr_S4, ↓bqr_T2, ↓bqr_T3, ↓bqr_F, ↓bqr_H, ↓bqa_C, ↓bqa_N, ↓bqa_U, ↓bqa_Y, ↓bqa_W, ↓bqa_S, ↓bqgkC_1, ↓bqgkC_2, ↓bqgkC_3, ↓bqgkC_4, ↓bqgkC_5, ↓bqgkC_6, ↓bqgkD_1, ↓bqgkN_0, ↓bqgkN_1, ↓bqgkO_1, ↓bqgkQ_1, ↓bqgkW_1, ↓bqgkS_0, ↓bqgkS_2, ↓bqgkS_3, ↓bqgkT_0, ↓bqgkT_1, ↓bqgkF_1, ↓bqgkH_1, ↓bqgkU_0, ↓bqgkU_1, ↓bqgkU_2, ↓bqgkU_3, ↓bqgkU_4, ↓bqgkY_0, ↓bqgkY_1, ↓bqgkY_2, ↓bqikE_, ↓bqikP_, ↓bqikR_, ↓bqikX_, ↓bqikG_, ↓bqikI_, ↓bqikJ_, ↓bqvkC_, ↓bqvkD_, ↓bqvkN_, ↓bqvkO_, ↓bqvkQ_, ↓bqvkU_, ↓bqvkY_, ↓bqvkW_, ↓bqvkS_, ↓bqvkT_, ↓bqvkF_, ↓bqvkH_, ↓bqr_0_0, ↓bqr_0_1, ↓bqr_0_3, ↓bqr_0_4, ↓bqr_0_5, ↓bqr_0_6, ↓bqr_0_7, ↓bqr_0_8, ↓bqr_1_0, ↓bqr_1_1, ↓bqr_1_2, ↓bqr_1_3, ↓bqr_1_5, ↓bqr_1_8, ↓bqr_1_10, ↓bqr_1_12, ↓bqr_1_13, ↓bqr_518_0, ↓bqr_518_1, ↓bqr_518_2, ↓bqr_518_6, ↓bqr_518_7, ↓bqr_524_0, ↓bqr_524_2, ↓bqr_524_4, ↓bqr_528_0, ↓bqr_528_1, ↓bqr_531_0, ↓bqr_531_1, ↓bqr_531_3, ↓bqr_592_0, ↓bqr_592_1, ↓bqr_592_2, ↓bqr_592_3, ↓bqr_592_4, ↓bqr_592_5, ↓bqr_592_6, ↓bqr_592_7, ↓bqr_592_11, ↓bqr_592_12, ↓bqr_592_13, ↓bqr_592_17, ↓bqr_592_18, ↓bqr_592_19, ↓bqr_592_23, ↓bqr_592_26, ↓bqr_592_27, ↓bqr_592_28, ↓bqg_0_2, ↓bqg_1_4, ↓bqg_1_6, ↓bqg_1_7, ↓bqg_1_9, ↓bqg_1_11, ↓bqg_1_14, ↓bqg_518_3, ↓bqg_518_4, ↓bqg_518_5, ↓bqg_518_8, ↓bqg_518_9, ↓bqg_524_1, ↓bqg_524_3, ↓bqg_528_2, ↓bqg_528_3, ↓bqg_531_2, ↓bqg_535_0, ↓bqg_535_1, ↓bqg_535_2, ↓bqg_535_3, ↓bqg_535_4, ↓bqg_592_8, ↓bqg_592_9, ↓bqg_592_10, ↓bqg_592_14, ↓bqg_592_15, ↓bqg_592_16, ↓bqg_592_20, ↓bqg_592_21, ↓bqg_592_22, ↓bqg_592_24, ↓bqg_592_25, ↓bqg_592_29, ↓bqg_592_30, ↓bqg_592_31, ↓bqg_592_32, ↓bqv_0, ↓bqv_1, ↓bqv_259, ↓bqv_518, ↓bqv_524, ↓bqv_528, ↓bqv_531, ↓bqv_535, ↓bqv_592, ↓bqi_2, ↓bqi_3, ↓bqi_4, ↓bqi_10, ↓bqi_519, ↓bqi_520, ↓bqi_521, ↓bqi_522, ↓bqi_523, ↓bqi_525, ↓bqi_526, ↓bqi_527, ↓bqi_529, ↓bqi_530, ↓bqi_532, ↓bqi_533, ↓bqi_534, ↓bqi_593, ↓bqi_594, ↓bqi_595, ↓bqi_596, ↓bqi_597, ↓bqi_598, ↓bqi_599, ↓bqi_600, ↓bqi_601, ↓bqi_602, ↓bqi_603, ↓bqi_604, ↓bqi_605, ↓bqi_606, ↓bqi_608, ↓bqi_609, ↓bqi_610, ↓bqz_607, ↓Option.bind_some, ↓bc_isIn, ↓bm_isIn, ↓bm_isShelf, i01, i10, j01, if_true, if_false, not_true_eq_false, not_false_eq_true, and_true, true_and, and_self, false_and, and_false, ↓reduceIte, Int.reduceEq, Int.reduceLT, Int.reduceLE, Int.reduceNeg, Int.reduceAdd, Int.reduceSub, Int.reduceMul, Int.reduceNe, Int.reduceToNat, Nat.reduceAdd, Nat.reduceMul, Nat.reduceEqDiff, mw_at hW, q2', ↓bm_note6 hW, eu, ↓bnd el, wr_n, elf]
    · rw [f_X12_listed_4]
      simp (disch := omega) only [↓bqr_C, ↓bqr_D, ↓bqr_N2, ↓bqr_N3, ↓bqr_O, ↓bqr_Q, ↓bqr_W, ↓bqr_S1, ↓bqr_S4, ↓bqr_T2, ↓bqr_T3, ↓bqr_F, ↓bqr_H, ↓bqa_C, ↓bqa_N, ↓bqa_U, ↓bqa_Y, ↓bqa_W, ↓bqa_S, ↓bqgkC_1, ↓bqgkC_2, ↓bqgkC_3, ↓bqgkC_4, ↓bqgkC_5, ↓bqgkC_6, ↓bqgkD_1, ↓bqgkN_0, ↓bqgkN_1, ↓bqgkO_1, ↓bqgkQ_1, ↓bqgkW_1, ↓bqgkS_0, ↓bqgkS_2, ↓bqgkS_3, ↓bqgkT_0, ↓bqgkT_1, ↓bqgkF_1, ↓bqgkH_1, ↓bqgkU_0, ↓bqgkU_1, ↓bqgkU_2, ↓bqgkU_3, ↓bqgkU_4, ↓bqgkY_0, ↓bqgkY_1, ↓bqgkY_2, ↓bqikE_, ↓bqikP_, ↓bqikR_, ↓bqikX_, ↓bqikG_, ↓bqikI_, ↓bqikJ_, ↓bqvkC_, ↓bqvkD_, ↓bqvkN_, ↓bqvkO_, ↓bqvkQ_, ↓bqvkU_, ↓bqvkY_, ↓bqvkW_, ↓bqvkS_, ↓bqvkT_, ↓bqvkF_, ↓bqvkH_, ↓bqr_0_0, ↓bqr_0_1, ↓bqr_0_3, ↓bqr_0_4, ↓bqr_0_5, ↓bqr_0_6, ↓bqr_0_7, ↓bqr_0_8, ↓bqr_1_0, ↓bqr_1_1, ↓bqr_1_2, ↓bqr_1_3, ↓bqr_1_5, ↓bqr_1_8, ↓bqr_1_10, ↓bqr_1_12, ↓bqr_1_13, ↓bqr_518_0, ↓bqr_518_1, ↓bqr_518_2, ↓bqr_518_6, ↓bqr_518_7, ↓bqr_524_0, ↓bqr_524_2, ↓bqr_524_4, ↓bqr_528_0, ↓bqr_528_1, ↓bqr_531_0, ↓bqr_531_1, ↓bqr_531_3, ↓bqr_592_0, ↓bqr_592_1, ↓bqr_592_2, ↓bqr_592_3, ↓bqr_592_4, ↓bqr_592_5, ↓bqr_592_6, ↓bqr_592_7, ↓bqr_592_11, ↓bqr_592_12, ↓bqr_592_13, ↓bqr_592_17, ↓bqr_592_18, ↓bqr_592_19, ↓bqr_592_23, ↓bqr_592_26, ↓bqr_592_27, ↓bqr_592_28, ↓bqg_0_2, ↓bqg_1_4, ↓bqg_1_6, ↓bqg_1_7, ↓bqg_1_9, ↓bqg_1_11, ↓bqg_1_14, ↓bqg_518_3, ↓bqg_518_4, ↓bqg_518_5, ↓bqg_518_8, ↓bqg_518_9, ↓bqg_524_1, ↓bqg_524_3, ↓bqg_528_2, ↓bqg_528_3, ↓bqg_531_2, ↓bqg_535_0, ↓bqg_535_1, ↓bqg_535_2, ↓bqg_535_3, ↓bqg_535_4, ↓bqg_592_8, ↓bqg_592_9, ↓bqg_592_10, ↓bqg_592_14, ↓bqg_592_15, ↓bqg_592_16, ↓bqg_592_20, ↓bqg_592_21, ↓bqg_592_22, ↓bqg_592_24, ↓bqg_592_25, ↓bqg_592_29, ↓bqg_592_30, ↓bqg_592_31, ↓bqg_592_32, ↓bqv_0, ↓bqv_1, ↓bqv_259, ↓bqv_518, ↓bqv_524, ↓bqv_528, ↓bqv_531, ↓bqv_535, ↓bqv_592, ↓bqi_2, ↓bqi_3, ↓bqi_4, ↓bqi_10, ↓bqi_519, ↓bqi_520, ↓bqi_521, ↓bqi_522, ↓bqi_523, ↓bqi_525, ↓bqi_526, ↓bqi_527, ↓bqi_529, ↓bqi_530, ↓bqi_532, ↓bqi_533, ↓bqi_534, ↓bqi_593, ↓bqi_594, ↓bqi_595, ↓bqi_596, ↓bqi_597, ↓bqi_598, ↓bqi_599, ↓bqi_600, ↓bqi_601, ↓bqi_602, ↓bqi_603, ↓bqi_604, ↓bqi_605, ↓bqi_606, ↓bqi_608, ↓bqi_609, ↓bqi_610, ↓bqz_607, ↓Option.bind_some, ↓bc_isIn, ↓bm_isIn, ↓bm_isShelf, i01, i10, j01, if_true, if_false, not_true_eq_false, not_false_eq_true, and_true, true_and, and_self, false_and, and_false, ↓reduceIte, Int.reduceEq, Int.reduceLT, Int.reduceLE, Int.reduceNeg, Int.reduceAdd, Int.reduceSub, Int.reduceMul, Int.reduceNe, Int.reduceToNat, Nat.reduceAdd, Nat.reduceMul, Nat.reduceEqDiff, mw_at hW, e63, Int.lt_irrefl]
  rw [step1]
  refine lp_run (A := Mem_m × Int) (fun n x a => f_X12_listed_47 SH0_ 592 n a.1 a.2 x) (v 1062) (fun x a => 0 ≤ x ∧ x ≤ v 1062 ∧ (∀ b, b ≠ 601 → b ≠ 602 → a.1 b = B b) ∧ a.2 = su_ (lf_ v us) (v 1063).toNat + su_ (cl_ v us) x.toNat ∧ 0 ≤ su_ (cl_ v us) x.toNat ∧ su_ (cl_ v us) x.toNat ≤ 40 * x) (fun o => ∃ B', o = some (B', su_ (lf_ v us) (v 1063).toNat + su_ (cl_ v us) (v 1062).toNat) ∧ ∀ a, a ≠ 601 → a ≠ 602 → B' a = B a) ?_ ?_ FU_ 0 (B, su_ (lf_ v us) (v 1063).toNat) (by unfold FU_; omega) ⟨by omega, by omega, fun _ _ _ => rfl, by show _ = _ + (0 : Int); omega, Int.le_refl _, Int.le_refl _⟩
  · intro n x a hx ⟨q1, q2, q3, q4, q5, q6⟩
    obtain ⟨C, s⟩ := a
    dsimp only at q3 q4
    have hWC : Mw C u := ⟨by rw [q3 593 (by decide) (by decide)]; exact hB, hW.2⟩
    have hsu : su_ (cl_ v us) (x + 1).toNat = su_ (cl_ v us) x.toNat + cl_ v us x := su_s q1
    have hbx := hb x q1 hx
    have hx' : x < u 1062 := by rw [e62]; exact hx
    have hCx := hCC x q1 hx
    refine Or.inl ?_
    rcases m_counts hWC q1 (by omega) with ⟨d1, d2⟩ | ⟨d1, d2⟩
    · obtain ⟨D, e1, e2, e3, e4, e5⟩ := m_cuts2 hWC (OF_Nb hO hw hN) (OF_Cb hO hCx) hU
      rw [OF_cf hO hw hN hCx] at e3
      have hcl : cl_ v us x = cf_ v x us 0 := if_pos ((OF_cn hO hw q1 (by omega)).mp d1)
      rw [hcl] at hbx hsu
      refine ⟨(D, s + cf_ v x us 0), ?_, by omega, by omega, fun b b1 b2 => (e2 b b1 b2).trans (q3 b b1 b2), by rw [hsu]; show s + cf_ v x us 0 = _; omega, by omega, by omega⟩
      show f_X12_listed_47 SH0_ 592 (n + 1) C s x = _
      rw [f_X12_listed_47]
      simp (disch := omega) only [↓bqr_C, ↓bqr_D, ↓bqr_N2, ↓bqr_N3, ↓bqr_O, ↓bqr_Q, ↓bqr_W, ↓bqr_S1, ↓bqr_S4, ↓bqr_T2, ↓bqr_T3, ↓bqr_F, ↓bqr_H, ↓bqa_C, ↓bqa_N, ↓bqa_U, ↓bqa_Y, ↓bqa_W, ↓bqa_S, ↓bqgkC_1, ↓bqgkC_2, ↓bqgkC_3, ↓bqgkC_4, ↓bqgkC_5, ↓bqgkC_6, ↓bqgkD_1, ↓bqgkN_0, ↓bqgkN_1, ↓bqgkO_1, ↓bqgkQ_1, ↓bqgkW_1, ↓bqgkS_0, ↓bqgkS_2, ↓bqgkS_3, ↓bqgkT_0, ↓bqgkT_1, ↓bqgkF_1, ↓bqgkH_1, ↓bqgkU_0, ↓bqgkU_1, ↓bqgkU_2, ↓bqgkU_3, ↓bqgkU_4, ↓bqgkY_0, ↓bqgkY_1, ↓bqgkY_2, ↓bqikE_, ↓bqikP_, ↓bqikR_, ↓bqikX_, ↓bqikG_, ↓bqikI_, ↓bqikJ_, ↓bqvkC_, ↓bqvkD_, ↓bqvkN_, ↓bqvkO_, ↓bqvkQ_, ↓bqvkU_, ↓bqvkY_, ↓bqvkW_, ↓bqvkS_, ↓bqvkT_, ↓bqvkF_, ↓bqvkH_, ↓bqr_0_0, ↓bqr_0_1, ↓bqr_0_3, ↓bqr_0_4, ↓bqr_0_5, ↓bqr_0_6, ↓bqr_0_7, ↓bqr_0_8, ↓bqr_1_0, ↓bqr_1_1, ↓bqr_1_2, ↓bqr_1_3, ↓bqr_1_5, ↓bqr_1_8, ↓bqr_1_10, ↓bqr_1_12, ↓bqr_1_13, ↓bqr_518_0, ↓bqr_518_1, ↓bqr_518_2, ↓bqr_518_6, ↓bqr_518_7, ↓bqr_524_0, ↓bqr_524_2, ↓bqr_524_4, ↓bqr_528_0, ↓bqr_528_1, ↓bqr_531_0, ↓bqr_531_1, ↓bqr_531_3, ↓bqr_592_0, ↓bqr_592_1, ↓bqr_592_2, ↓bqr_592_3, ↓bqr_592_4, ↓bqr_592_5, ↓bqr_592_6, ↓bqr_592_7, ↓bqr_592_11, ↓bqr_592_12, ↓bqr_592_13, ↓bqr_592_17, ↓bqr_592_18, ↓bqr_592_19, ↓bqr_592_23, ↓bqr_592_26, ↓bqr_592_27, ↓bqr_592_28, ↓bqg_0_2, ↓bqg_1_4, ↓bqg_1_6, ↓bqg_1_7, ↓bqg_1_9, ↓bqg_1_11, ↓bqg_1_14, ↓bqg_518_3, ↓bqg_518_4, ↓bqg_518_5, ↓bqg_518_8, ↓bqg_518_9, ↓bqg_524_1, ↓bqg_524_3, ↓bqg_528_2, ↓bqg_528_3, ↓bqg_531_2, ↓bqg_535_0, ↓bqg_535_1, ↓bqg_535_2, ↓bqg_535_3, ↓bqg_535_4, ↓bqg_592_8, ↓bqg_592_9, ↓bqg_592_10, ↓bqg_592_14, ↓bqg_592_15, ↓bqg_592_16, ↓bqg_592_20, ↓bqg_592_21, ↓bqg_592_22, ↓bqg_592_24, ↓bqg_592_25, ↓bqg_592_29, ↓bqg_592_30, ↓bqg_592_31, ↓bqg_592_32, ↓bqv_0, ↓bqv_1, ↓bqv_259, ↓bqv_518, ↓bqv_524, ↓bqv_528, ↓bqv_531, ↓bqv_535, ↓bqv_592, ↓bqi_2, ↓bqi_3, ↓bqi_4, ↓bqi_10, ↓bqi_519, ↓bqi_520, ↓bqi_521, ↓bqi_522, ↓bqi_523, ↓bqi_525, ↓bqi_526, ↓bqi_527, ↓bqi_529, ↓bqi_530, ↓bqi_532, ↓bqi_533, ↓bqi_534, ↓bqi_593, ↓bqi_594, ↓bqi_595, ↓bqi_596, ↓bqi_597, ↓bqi_598, ↓bqi_599, ↓bqi_600, ↓bqi_601, ↓bqi_602, ↓bqi_603, ↓bqi_604, ↓bqi_605, ↓bqi_606, ↓bqi_608, ↓bqi_609, ↓bqi_610, ↓bqz_607, ↓Option.bind_some, ↓bc_isIn, ↓bm_isIn, ↓bm_isShelf, i01, i10, j01, if_true, if_false, not_true_eq_false, not_false_eq_true, and_true, true_and, and_self, false_and, and_false, ↓reduceIte, Int.reduceEq, Int.reduceLT, Int.reduceLE, Int.reduceNeg, Int.reduceAdd, Int.reduceSub, Int.reduceMul, Int.reduceNe, Int.reduceToNat, Nat.reduceAdd, Nat.reduceMul, Nat.reduceEqDiff, mw_at hWC, hx', ↓bnd d2, ↓bnd e1, e3, wr_n]
    · have hcl : cl_ v us x = 0 := if_neg (fun q => d1 ((OF_cn hO hw q1 (by omega)).mpr q))
      rw [hcl] at hsu
      refine ⟨(C, s), ?_, by omega, by omega, q3, by rw [hsu]; show s = _; omega, by omega, by omega⟩
      show f_X12_listed_47 SH0_ 592 (n + 1) C s x = _
      rw [f_X12_listed_47]
      simp (disch := omega) only [↓bqr_C, ↓bqr_D, ↓bqr_N2, ↓bqr_N3, ↓bqr_O, ↓bqr_Q, ↓bqr_W, ↓bqr_S1, ↓bqr_S4, ↓bqr_T2, ↓bqr_T3, ↓bqr_F, ↓bqr_H, ↓bqa_C, ↓bqa_N, ↓bqa_U, ↓bqa_Y, ↓bqa_W, ↓bqa_S, ↓bqgkC_1, ↓bqgkC_2, ↓bqgkC_3, ↓bqgkC_4, ↓bqgkC_5, ↓bqgkC_6, ↓bqgkD_1, ↓bqgkN_0, ↓bqgkN_1, ↓bqgkO_1, ↓bqgkQ_1, ↓bqgkW_1, ↓bqgkS_0, ↓bqgkS_2, ↓bqgkS_3, ↓bqgkT_0, ↓bqgkT_1, ↓bqgkF_1, ↓bqgkH_1, ↓bqgkU_0, ↓bqgkU_1, ↓bqgkU_2, ↓bqgkU_3, ↓bqgkU_4, ↓bqgkY_0, ↓bqgkY_1, ↓bqgkY_2, ↓bqikE_, ↓bqikP_, ↓bqikR_, ↓bqikX_, ↓bqikG_, ↓bqikI_, ↓bqikJ_, ↓bqvkC_, ↓bqvkD_, ↓bqvkN_, ↓bqvkO_, ↓bqvkQ_, ↓bqvkU_, ↓bqvkY_, ↓bqvkW_, ↓bqvkS_, ↓bqvkT_, ↓bqvkF_, ↓bqvkH_, ↓bqr_0_0, ↓bqr_0_1, ↓bqr_0_3, ↓bqr_0_4, ↓bqr_0_5, ↓bqr_0_6, ↓bqr_0_7, ↓bqr_0_8, ↓bqr_1_0, ↓bqr_1_1, ↓bqr_1_2, ↓bqr_1_3, ↓bqr_1_5, ↓bqr_1_8, ↓bqr_1_10, ↓bqr_1_12, ↓bqr_1_13, ↓bqr_518_0, ↓bqr_518_1, ↓bqr_518_2, ↓bqr_518_6, ↓bqr_518_7, ↓bqr_524_0, ↓bqr_524_2, ↓bqr_524_4, ↓bqr_528_0, ↓bqr_528_1, ↓bqr_531_0, ↓bqr_531_1, ↓bqr_531_3, ↓bqr_592_0, ↓bqr_592_1, ↓bqr_592_2, ↓bqr_592_3, ↓bqr_592_4, ↓bqr_592_5, ↓bqr_592_6, ↓bqr_592_7, ↓bqr_592_11, ↓bqr_592_12, ↓bqr_592_13, ↓bqr_592_17, ↓bqr_592_18, ↓bqr_592_19, ↓bqr_592_23, ↓bqr_592_26, ↓bqr_592_27, ↓bqr_592_28, ↓bqg_0_2, ↓bqg_1_4, ↓bqg_1_6, ↓bqg_1_7, ↓bqg_1_9, ↓bqg_1_11, ↓bqg_1_14, ↓bqg_518_3, ↓bqg_518_4, ↓bqg_518_5, ↓bqg_518_8, ↓bqg_518_9, ↓bqg_524_1, ↓bqg_524_3, ↓bqg_528_2, ↓bqg_528_3, ↓bqg_531_2, ↓bqg_535_0, ↓bqg_535_1, ↓bqg_535_2, ↓bqg_535_3, ↓bqg_535_4, ↓bqg_592_8, ↓bqg_592_9, ↓bqg_592_10, ↓bqg_592_14, ↓bqg_592_15, ↓bqg_592_16, ↓bqg_592_20, ↓bqg_592_21, ↓bqg_592_22, ↓bqg_592_24, ↓bqg_592_25, ↓bqg_592_29, ↓bqg_592_30, ↓bqg_592_31, ↓bqg_592_32, ↓bqv_0, ↓bqv_1, ↓bqv_259, ↓bqv_518, ↓bqv_524, ↓bqv_528, ↓bqv_531, ↓bqv_535, ↓bqv_592, ↓bqi_2, ↓bqi_3, ↓bqi_4, ↓bqi_10, ↓bqi_519, ↓bqi_520, ↓bqi_521, ↓bqi_522, ↓bqi_523, ↓bqi_525, ↓bqi_526, ↓bqi_527, ↓bqi_529, ↓bqi_530, ↓bqi_532, ↓bqi_533, ↓bqi_534, ↓bqi_593, ↓bqi_594, ↓bqi_595, ↓bqi_596, ↓bqi_597, ↓bqi_598, ↓bqi_599, ↓bqi_600, ↓bqi_601, ↓bqi_602, ↓bqi_603, ↓bqi_604, ↓bqi_605, ↓bqi_606, ↓bqi_608, ↓bqi_609, ↓bqi_610, ↓bqz_607, ↓Option.bind_some, ↓bc_isIn, ↓bm_isIn, ↓bm_isShelf, i01, i10, j01, if_true, if_false, not_true_eq_false, not_false_eq_true, and_true, true_and, and_self, false_and, and_false, ↓reduceIte, Int.reduceEq, Int.reduceLT, Int.reduceLE, Int.reduceNeg, Int.reduceAdd, Int.reduceSub, Int.reduceMul, Int.reduceNe, Int.reduceToNat, Nat.reduceAdd, Nat.reduceMul, Nat.reduceEqDiff, mw_at hWC, hx', ↓bnd d2, wr_n]
  · intro n x a hx ⟨q1, q2, q3, q4, q5, q6⟩
    obtain ⟨C, s⟩ := a
    dsimp only at q3 q4
    have ex : x = v 1062 := by omega
    subst ex
    have hWC : Mw C u := ⟨by rw [q3 593 (by decide) (by decide)]; exact hB, hW.2⟩
    refine ⟨C, ?_, q3⟩
    show f_X12_listed_47 SH0_ 592 (n + 1) C s (v 1062) = _
    rw [f_X12_listed_47]
    simp (disch := omega) only [↓bqr_C, ↓bqr_D, ↓bqr_N2, ↓bqr_N3, ↓bqr_O, ↓bqr_Q, ↓bqr_W, ↓bqr_S1, ↓bqr_S4, ↓bqr_T2, ↓bqr_T3, ↓bqr_F, ↓bqr_H, ↓bqa_C, ↓bqa_N, ↓bqa_U, ↓bqa_Y, ↓bqa_W, ↓bqa_S, ↓bqgkC_1, ↓bqgkC_2, ↓bqgkC_3, ↓bqgkC_4, ↓bqgkC_5, ↓bqgkC_6, ↓bqgkD_1, ↓bqgkN_0, ↓bqgkN_1, ↓bqgkO_1, ↓bqgkQ_1, ↓bqgkW_1, ↓bqgkS_0, ↓bqgkS_2, ↓bqgkS_3, ↓bqgkT_0, ↓bqgkT_1, ↓bqgkF_1, ↓bqgkH_1, ↓bqgkU_0, ↓bqgkU_1, ↓bqgkU_2, ↓bqgkU_3, ↓bqgkU_4, ↓bqgkY_0, ↓bqgkY_1, ↓bqgkY_2, ↓bqikE_, ↓bqikP_, ↓bqikR_, ↓bqikX_, ↓bqikG_, ↓bqikI_, ↓bqikJ_, ↓bqvkC_, ↓bqvkD_, ↓bqvkN_, ↓bqvkO_, ↓bqvkQ_, ↓bqvkU_, ↓bqvkY_, ↓bqvkW_, ↓bqvkS_, ↓bqvkT_, ↓bqvkF_, ↓bqvkH_, ↓bqr_0_0, ↓bqr_0_1, ↓bqr_0_3, ↓bqr_0_4, ↓bqr_0_5, ↓bqr_0_6, ↓bqr_0_7, ↓bqr_0_8, ↓bqr_1_0, ↓bqr_1_1, ↓bqr_1_2, ↓bqr_1_3, ↓bqr_1_5, ↓bqr_1_8, ↓bqr_1_10, ↓bqr_1_12, ↓bqr_1_13, ↓bqr_518_0, ↓bqr_518_1, ↓bqr_518_2, ↓bqr_518_6, ↓bqr_518_7, ↓bqr_524_0, ↓bqr_524_2, ↓bqr_524_4, ↓bqr_528_0, ↓bqr_528_1, ↓bqr_531_0, ↓bqr_531_1, ↓bqr_531_3, ↓bqr_592_0, ↓bqr_592_1, ↓bqr_592_2, ↓bqr_592_3, ↓bqr_592_4, ↓bqr_592_5, ↓bqr_592_6, ↓bqr_592_7, ↓bqr_592_11, ↓bqr_592_12, ↓bqr_592_13, ↓bqr_592_17, ↓bqr_592_18, ↓bqr_592_19, ↓bqr_592_23, ↓bqr_592_26, ↓bqr_592_27, ↓bqr_592_28, ↓bqg_0_2, ↓bqg_1_4, ↓bqg_1_6, ↓bqg_1_7, ↓bqg_1_9, ↓bqg_1_11, ↓bqg_1_14, ↓bqg_518_3, ↓bqg_518_4, ↓bqg_518_5, ↓bqg_518_8, ↓bqg_518_9, ↓bqg_524_1, ↓bqg_524_3, ↓bqg_528_2, ↓bqg_528_3, ↓bqg_531_2, ↓bqg_535_0, ↓bqg_535_1, ↓bqg_535_2, ↓bqg_535_3, ↓bqg_535_4, ↓bqg_592_8, ↓bqg_592_9, ↓bqg_592_10, ↓bqg_592_14, ↓bqg_592_15, ↓bqg_592_16, ↓bqg_592_20, ↓bqg_592_21, ↓bqg_592_22, ↓bqg_592_24, ↓bqg_592_25, ↓bqg_592_29, ↓bqg_592_30, ↓bqg_592_31, ↓bqg_592_32, ↓bqv_0, ↓bqv_1, ↓bqv_259, ↓bqv_518, ↓bqv_524, ↓bqv_528, ↓bqv_531, ↓bqv_535, ↓bqv_592, ↓bqi_2, ↓bqi_3, ↓bqi_4, ↓bqi_10, ↓bqi_519, ↓bqi_520, ↓bqi_521, ↓bqi_522, ↓bqi_523, ↓bqi_525, ↓bqi_526, ↓bqi_527, ↓bqi_529, ↓bqi_530, ↓bqi_532, ↓bqi_533, ↓bqi_534, ↓bqi_593, ↓bqi_594, ↓bqi_595, ↓bqi_596, ↓bqi_597, ↓bqi_598, ↓bqi_599, ↓bqi_600, ↓bqi_601, ↓bqi_602, ↓bqi_603, ↓bqi_604, ↓bqi_605, ↓bqi_606, ↓bqi_608, ↓bqi_609, ↓bqi_610, ↓bqz_607, ↓Option.bind_some, ↓bc_isIn, ↓bm_isIn, ↓bm_isShelf, i01, i10, j01, if_true, if_false, not_true_eq_false, not_false_eq_true, and_true, true_and, and_self, false_and, and_false, ↓reduceIte, Int.reduceEq, Int.reduceLT, Int.reduceLE, Int.reduceNeg, Int.reduceAdd, Int.reduceSub, Int.reduceMul, Int.reduceNe, Int.reduceToNat, Nat.reduceAdd, Nat.reduceMul, Nat.reduceEqDiff, mw_at hWC, e62, Int.lt_irrefl, q4]
theorem b1023 : ∀ j : Nat, j < 10 → (1023 : Nat).testBit j = true := fun j hj => by
  have h : ∀ j ∈ List.range 10, (1023 : Nat).testBit j = true := by decide
  exact h j (List.mem_range.mpr hj)
theorem OF_Ub (hO : OF_ v u w) (hw : (w : Int) = min (v 1063) 10) (h63 : 0 ≤ v 1063 ∧ v 1063 ≤ 16) (hU : Ub_ v us) {s : Nat} (hs : s < 2 ^ w) (hF : ∀ n, n < w → u (606 + 7 * n) = b_ s n) : Ub_ u (s ||| ac_ us 1023) := by
  have hul := hU.1
  have hal := ac_le us 1023
  have hw10 : w ≤ 10 := by omega
  have hs2 : 2 ^ w ≤ 2 ^ 10 := Nat.pow_le_pow_right (by decide) hw10
  refine ⟨Nat.or_lt_two_pow (n := 16) (by omega) (by omega), fun n hn => ?_⟩
  rw [hO 1063 (by omega)] at hn
  have ei : 600 + 7 * ((n : Int)).toNat + 6 = 606 + 7 * n := by omega
  have en : nu_ u n = u (606 + 7 * n) := by unfold nu_; rw [ei]
  have ev : nu_ v n = v (606 + 7 * n) := by unfold nu_; rw [ei]
  rw [en]
  by_cases h : n < w
  · rw [hF n h]
    unfold b_
    rw [Nat.testBit_or, ac_bit (by omega) (by decide), b1023 n (by omega)]
    simp
  · rw [hO _ (by omega), ← ev, hU.2 n hn]
    unfold b_
    rw [Nat.testBit_or, ac_bit (by omega) (by decide), lt_bit hs (by omega), lt_bit (n := 1023) (k := 10) (by decide) (by omega)]
    simp
/-- the search of the reference -/
theorem m_leastList (hV : Vw B v) (hU : Ub_ v us) (hw : (w : Int) = min (v 1063) 10) {W : Nat} (hW : W = 2 ^ w) (hsl : sl_i 1 (w : Int) = (W : Int)) {what : Int}
    (hbd : ∀ s : Nat, s < W → (0 ≤ lsv_ v (ac_ us 1023) s ∧ lsv_ v (ac_ us 1023) s ≤ 2000) ∧ ∀ x : Int, 0 ≤ x → x < v 1062 → 0 ≤ cl_ v (s ||| ac_ us 1023) x ∧ cl_ v (s ||| ac_ us 1023) x ≤ 40) :
    ∃ E r m, f_X12_leastList_41 SH0_ 592 what (w : Int) FU_ B 0 = some (E, if what = 0 then m else ((r : Nat) : Int)) ∧ sm_ B E ∧ AM_ W (lsv_ v (ac_ us 1023)) r m := by
  have b4 := vb_4 hV
  have b6 := vb_6 hV
  have hN := Nb_of hV
  have hWB := mw_of hV
  have hw10 : w ≤ 10 := by omega
  have hwn : (w : Int) ≤ v 1063 := by omega
  have hCC : ∀ c : Int, 0 ≤ c → c < v 1062 → Cb_ v c := fun c h1 h2 => Cb_of hV h1 h2
  have hWle : W ≤ 1024 := by
    have : 2 ^ w ≤ 2 ^ 10 := Nat.pow_le_pow_right (by decide) hw10
    omega
  have hW1 : 1 ≤ W := by have := Nat.two_pow_pos w; omega
  -- the flags are kept
  have P1 : ∃ C, f_X12_leastList_41 SH0_ 592 what (w : Int) FU_ B 0 = f_X12_leastList_74 SH0_ 592 what (w : Int) FU_ C 0 1000000000 0 ∧ (∀ a, a ≠ 603 → C a = B a) ∧ ∀ n, n < w → C 603 n = v (606 + 7 * n) := by
    refine lp_run (A := Mem_m) (fun n x C => f_X12_leastList_41 SH0_ 592 what (w : Int) n C x) (w : Int) (fun x C => 0 ≤ x ∧ x ≤ w ∧ (∀ a, a ≠ 603 → C a = B a) ∧ ∀ n : Nat, (n : Int) < x → C 603 n = v (606 + 7 * n)) (fun o => ∃ C, o = f_X12_leastList_74 SH0_ 592 what (w : Int) FU_ C 0 1000000000 0 ∧ (∀ a, a ≠ 603 → C a = B a) ∧ ∀ n, n < w → C 603 n = v (606 + 7 * n)) ?_ ?_ FU_ 0 B (by unfold FU_; omega) ⟨by omega, by omega, fun _ _ => rfl, fun n hn => absurd hn (by omega)⟩
    · intro fu x C hx ⟨q1, q2, q3, q4⟩
      obtain ⟨n, rfl⟩ := int_nat q1
      have hWC : Mw C v := ⟨by rw [q3 593 (by decide)]; exact hWB.1, hWB.2⟩
      have en : ((n : Int)).toNat = n := by omega
      refine Or.inl ⟨st_m C 603 n (nu_ v n), ?_, by omega, by omega, fun a ha => (st_o2 ha).trans (q3 a ha), fun j hj => ?_⟩
      · show f_X12_leastList_41 SH0_ 592 what (w : Int) (fu + 1) C (n : Int) = _
        rw [f_X12_leastList_41]
        simp (disch := omega) only [↓bqr_C, ↓bqr_D, ↓bqr_N2, ↓bqr_N3, ↓bqr_O, ↓bqr_Q, ↓bqr_W, ↓bqr_S1, ↓bqr_S4, ↓bqr_T2, ↓bqr_T3, ↓bqr_F, ↓bqr_H, ↓bqa_C, ↓bqa_N, ↓bqa_U, ↓bqa_Y, ↓bqa_W, ↓bqa_S, ↓bqgkC_1, ↓bqgkC_2, ↓bqgkC_3, ↓bqgkC_4, ↓bqgkC_5, ↓bqgkC_6, ↓bqgkD_1, ↓bqgkN_0, ↓bqgkN_1, ↓bqgkO_1, ↓bqgkQ_1, ↓bqgkW_1, ↓bqgkS_0, ↓bqgkS_2, ↓bqgkS_3, ↓bqgkT_0, ↓bqgkT_1, ↓bqgkF_1, ↓bqgkH_1, ↓bqgkU_0, ↓bqgkU_1, ↓bqgkU_2, ↓bqgkU_3, ↓bqgkU_4, ↓bqgkY_0, ↓bqgkY_1, ↓bqgkY_2, ↓bqikE_, ↓bqikP_, ↓bqikR_, ↓bqikX_, ↓bqikG_, ↓bqikI_, ↓bqikJ_, ↓bqvkC_, ↓bqvkD_, ↓bqvkN_, ↓bqvkO_, ↓bqvkQ_, ↓bqvkU_, ↓bqvkY_, ↓bqvkW_, ↓bqvkS_, ↓bqvkT_, ↓bqvkF_, ↓bqvkH_, ↓bqr_0_0, ↓bqr_0_1, ↓bqr_0_3, ↓bqr_0_4, ↓bqr_0_5, ↓bqr_0_6, ↓bqr_0_7, ↓bqr_0_8, ↓bqr_1_0, ↓bqr_1_1, ↓bqr_1_2, ↓bqr_1_3, ↓bqr_1_5, ↓bqr_1_8, ↓bqr_1_10, ↓bqr_1_12, ↓bqr_1_13, ↓bqr_518_0, ↓bqr_518_1, ↓bqr_518_2, ↓bqr_518_6, ↓bqr_518_7, ↓bqr_524_0, ↓bqr_524_2, ↓bqr_524_4, ↓bqr_528_0, ↓bqr_528_1, ↓bqr_531_0, ↓bqr_531_1, ↓bqr_531_3, ↓bqr_592_0, ↓bqr_592_1, ↓bqr_592_2, ↓bqr_592_3, ↓bqr_592_4, ↓bqr_592_5, ↓bqr_592_6, ↓bqr_592_7, ↓bqr_592_11, ↓bqr_592_12, ↓bqr_592_13, ↓bqr_592_17, ↓bqr_592_18, ↓bqr_592_19, ↓bqr_592_23, ↓bqr_592_26, ↓bqr_592_27, ↓bqr_592_28, ↓bqg_0_2, ↓bqg_1_4, ↓bqg_1_6, ↓bqg_1_7, ↓bqg_1_9, ↓bqg_1_11, ↓bqg_1_14, ↓bqg_518_3, ↓bqg_518_4, ↓bqg_518_5, ↓bqg_518_8, ↓bqg_518_9, ↓bqg_524_1, ↓bqg_524_3, ↓bqg_528_2, ↓bqg_528_3, ↓bqg_531_2, ↓bqg_535_0, ↓bqg_535_1, ↓bqg_535_2, ↓bqg_535_3, ↓bqg_535_4, ↓bqg_592_8, ↓bqg_592_9, ↓bqg_592_10, ↓bqg_592_14, ↓bqg_592_15, ↓bqg_592_16, ↓bqg_592_20, ↓bqg_592_21, ↓bqg_592_22, ↓bqg_592_24, ↓bqg_592_25, ↓bqg_592_29, ↓bqg_592_30, ↓bqg_592_31, ↓bqg_592_32, ↓bqv_0, ↓bqv_1, ↓bqv_259, ↓bqv_518, ↓bqv_524, ↓bqv_528, ↓bqv_531, ↓bqv_535, ↓bqv_592, ↓bqi_2, ↓bqi_3, ↓bqi_4, ↓bqi_10, ↓bqi_519, ↓bqi_520, ↓bqi_521, ↓bqi_522, ↓bqi_523, ↓bqi_525, ↓bqi_526, ↓bqi_527, ↓bqi_529, ↓bqi_530, ↓bqi_532, ↓bqi_533, ↓bqi_534, ↓bqi_593, ↓bqi_594, ↓bqi_595, ↓bqi_596, ↓bqi_597, ↓bqi_598, ↓bqi_599, ↓bqi_600, ↓bqi_601, ↓bqi_602, ↓bqi_603, ↓bqi_604, ↓bqi_605, ↓bqi_606, ↓bqi_608, ↓bqi_609, ↓bqi_610, ↓bqz_607, ↓bqpkC_1, ↓bqpkC_2, ↓bqpkC_3, ↓bqpkC_4, ↓bqpkC_5, ↓bqpkC_6, ↓bqpkD_1, ↓bqpkN_0, ↓bqpkN_1, ↓bqpkO_1, ↓bqpkQ_1, ↓bqpkW_1, ↓bqpkS_0, ↓bqpkS_2, ↓bqpkS_3, ↓bqpkT_0, ↓bqpkT_1, ↓bqpkF_1, ↓bqpkH_1, ↓bqpkU_0, ↓bqpkU_1, ↓bqpkU_2, ↓bqpkU_3, ↓bqpkU_4, ↓bqpkY_0, ↓bqpkY_1, ↓bqpkY_2, ↓bqskE_, ↓bqskP_, ↓bqskR_, ↓bqskX_, ↓bqskG_, ↓bqskI_, ↓bqskJ_, ↓bqp_0_2, ↓bqp_1_4, ↓bqp_1_6, ↓bqp_1_7, ↓bqp_1_9, ↓bqp_1_11, ↓bqp_1_14, ↓bqp_518_3, ↓bqp_518_4, ↓bqp_518_5, ↓bqp_518_8, ↓bqp_518_9, ↓bqp_524_1, ↓bqp_524_3, ↓bqp_528_2, ↓bqp_528_3, ↓bqp_531_2, ↓bqp_535_0, ↓bqp_535_1, ↓bqp_535_2, ↓bqp_535_3, ↓bqp_535_4, ↓bqp_592_8, ↓bqp_592_9, ↓bqp_592_10, ↓bqp_592_14, ↓bqp_592_15, ↓bqp_592_16, ↓bqp_592_20, ↓bqp_592_21, ↓bqp_592_22, ↓bqp_592_24, ↓bqp_592_25, ↓bqp_592_29, ↓bqp_592_30, ↓bqp_592_31, ↓bqp_592_32, ↓bqs_2, ↓bqs_3, ↓bqs_4, ↓bqs_10, ↓bqs_519, ↓bqs_520, ↓bqs_521, ↓bqs_522, ↓bqs_523, ↓bqs_525, ↓bqs_526, ↓bqs_527, ↓bqs_529, ↓bqs_530, ↓bqs_532, ↓bqs_533, ↓bqs_534, ↓bqs_593, ↓bqs_594, ↓bqs_595, ↓bqs_596, ↓bqs_597, ↓bqs_598, ↓bqs_599, ↓bqs_600, ↓bqs_601, ↓bqs_602, ↓bqs_603, ↓bqs_604, ↓bqs_605, ↓bqs_606, ↓bqs_608, ↓bqs_609, ↓bqs_610, ↓bqt_607, ↓Option.bind_some, ↓bc_isIn, ↓bm_isIn, ↓bm_isShelf, i01, i10, j01, if_true, if_false, not_true_eq_false, not_false_eq_true, and_true, true_and, and_self, false_and, and_false, ↓reduceIte, Int.reduceEq, Int.reduceLT, Int.reduceLE, Int.reduceNeg, Int.reduceAdd, Int.reduceSub, Int.reduceMul, Int.reduceNe, Int.reduceToNat, Nat.reduceAdd, Nat.reduceMul, Nat.reduceEqDiff, hx, ↓bm_note6 hWC, en, wr_n]
      · by_cases e : j = n
        · subst e; rw [st_e]; unfold nu_; congr 1; omega
        · rw [st_k e]; exact q4 j (by omega)
    · intro fu x C hx ⟨q1, q2, q3, q4⟩
      refine ⟨C, ?_, q3, fun n hn => q4 n (by omega)⟩
      show f_X12_leastList_41 SH0_ 592 what (w : Int) (fu + 1) C x = _
      rw [f_X12_leastList_41, if_neg (by omega)]
  obtain ⟨C0, p1, p2, p3⟩ := P1
  rw [p1]
  -- the sets
  have P2 : ∃ C r m, f_X12_leastList_74 SH0_ 592 what (w : Int) FU_ C0 0 1000000000 0 = f_X12_leastList_153 SH0_ 592 what (w : Int) ((r : Nat) : Int) m FU_ C 0 ∧ (∀ a, a ≠ 593 → a ≠ 601 → a ≠ 602 → C a = C0 a) ∧ OF_ v (C 593) w ∧ AM_ W (lsv_ v (ac_ us 1023)) r m := by
    refine lp_run (A := Mem_m × Int × Int) (fun n x a => f_X12_leastList_74 SH0_ 592 what (w : Int) n a.1 a.2.1 a.2.2 x) (W : Int) (fun x a => 0 ≤ x ∧ x ≤ W ∧ (∀ b, b ≠ 593 → b ≠ 601 → b ≠ 602 → a.1 b = C0 b) ∧ OF_ v (a.1 593) w ∧ ((x = 0 ∧ a.2.1 = 0 ∧ a.2.2 = 1000000000) ∨ ∃ r : Nat, a.2.1 = (r : Int) ∧ AM_ x.toNat (lsv_ v (ac_ us 1023)) r a.2.2)) (fun o => ∃ C r m, o = f_X12_leastList_153 SH0_ 592 what (w : Int) ((r : Nat) : Int) m FU_ C 0 ∧ (∀ a, a ≠ 593 → a ≠ 601 → a ≠ 602 → C a = C0 a) ∧ OF_ v (C 593) w ∧ AM_ W (lsv_ v (ac_ us 1023)) r m) ?_ ?_ FU_ 0 (C0, 0, 1000000000) (by unfold FU_; omega) ⟨by omega, by omega, fun _ _ _ _ => rfl, ?_, Or.inl ⟨rfl, rfl, rfl⟩⟩
    · intro fu x a hx ⟨q1, q2, q3, q4, q5⟩
      obtain ⟨C, best, least⟩ := a
      dsimp only at q3 q4 q5
      obtain ⟨s, rfl⟩ := int_nat q1
      have hsW : s < W := by omega
      have es1 : ((s : Int) + 1).toNat = s + 1 := by omega
      have es : ((s : Int)).toNat = s := by omega
      generalize hK : (fun (M : Mem_m) (x3 x4 x5 : Int) => f_X12_leastList_74 SH0_ 592 what (w : Int) fu M x3 x4 x5) = K
      have inner : ∃ D, f_X12_leastList_85 SH0_ K 592 what (w : Int) best least (s : Int) FU_ C 0 = (f_X12_listed SH0_ D 592).bind (fun z3 => if z3.2 < least then K z3.1 (s : Int) z3.2 ((s : Int) + 1) else K z3.1 best least ((s : Int) + 1)) ∧ (∀ a, a ≠ 593 → D a = C a) ∧ OF_ v (D 593) w ∧ ∀ n, n < w → D 593 (606 + 7 * n) = b_ s n := by
        refine lp_run (A := Mem_m) (fun m y D => f_X12_leastList_85 SH0_ K 592 what (w : Int) best least (s : Int) m D y) (w : Int) (fun y D => 0 ≤ y ∧ y ≤ w ∧ (∀ a, a ≠ 593 → D a = C a) ∧ OF_ v (D 593) w ∧ ∀ n : Nat, (n : Int) < y → D 593 (606 + 7 * n) = b_ s n) (fun o => ∃ D, o = (f_X12_listed SH0_ D 592).bind (fun z3 => if z3.2 < least then K z3.1 (s : Int) z3.2 ((s : Int) + 1) else K z3.1 best least ((s : Int) + 1)) ∧ (∀ a, a ≠ 593 → D a = C a) ∧ OF_ v (D 593) w ∧ ∀ n, n < w → D 593 (606 + 7 * n) = b_ s n) ?_ ?_ FU_ 0 C (by unfold FU_; omega) ⟨by omega, by omega, fun _ _ => rfl, q4, fun n hn => absurd hn (by omega)⟩
        · intro m y D hy ⟨r1, r2, r3, r4, r5⟩
          obtain ⟨n, rfl⟩ := int_nat r1
          have eb : an_i (sr_i (s : Int) (n : Int)) 1 = b_ s n := bit_nat (by omega) (by omega)
          have ei : (600 + 7 * (n : Int) + 6).toNat = 606 + 7 * n := by omega
          refine Or.inl ⟨st_m D 593 (606 + 7 * n) (b_ s n), ?_, by omega, by omega, fun a ha => (st_o2 ha).trans (r3 a ha), fun k hk => ?_, fun j hj => ?_⟩
          · show f_X12_leastList_85 SH0_ K 592 what (w : Int) best least (s : Int) (m + 1) D (n : Int) = _
            rw [f_X12_leastList_85]
            simp (disch := omega) only [↓bqr_C, ↓bqr_D, ↓bqr_N2, ↓bqr_N3, ↓bqr_O, ↓bqr_Q, ↓bqr_W, ↓bqr_S1, ↓bqr_S4, ↓bqr_T2, ↓bqr_T3, ↓bqr_F, ↓bqr_H, ↓bqa_C, ↓bqa_N, ↓bqa_U, ↓bqa_Y, ↓bqa_W, ↓bqa_S, ↓bqgkC_1, ↓bqgkC_2, ↓bqgkC_3, ↓bqgkC_4, ↓bqgkC_5, ↓bqgkC_6, ↓bqgkD_1, ↓bqgkN_0, ↓bqgkN_1, ↓bqgkO_1, ↓bqgkQ_1, ↓bqgkW_1, ↓bqgkS_0, ↓bqgkS_2, ↓bqgkS_3, ↓bqgkT_0, ↓bqgkT_1, ↓bqgkF_1, ↓bqgkH_1, ↓bqgkU_0, ↓bqgkU_1, ↓bqgkU_2, ↓bqgkU_3, ↓bqgkU_4, ↓bqgkY_0, ↓bqgkY_1, ↓bqgkY_2, ↓bqikE_, ↓bqikP_, ↓bqikR_, ↓bqikX_, ↓bqikG_, ↓bqikI_, ↓bqikJ_, ↓bqvkC_, ↓bqvkD_, ↓bqvkN_, ↓bqvkO_, ↓bqvkQ_, ↓bqvkU_, ↓bqvkY_, ↓bqvkW_, ↓bqvkS_, ↓bqvkT_, ↓bqvkF_, ↓bqvkH_, ↓bqr_0_0, ↓bqr_0_1, ↓bqr_0_3, ↓bqr_0_4, ↓bqr_0_5, ↓bqr_0_6, ↓bqr_0_7, ↓bqr_0_8, ↓bqr_1_0, ↓bqr_1_1, ↓bqr_1_2, ↓bqr_1_3, ↓bqr_1_5, ↓bqr_1_8, ↓bqr_1_10, ↓bqr_1_12, ↓bqr_1_13, ↓bqr_518_0, ↓bqr_518_1, ↓bqr_518_2, ↓bqr_518_6, ↓bqr_518_7, ↓bqr_524_0, ↓bqr_524_2, ↓bqr_524_4, ↓bqr_528_0, ↓bqr_528_1, ↓bqr_531_0, ↓bqr_531_1, ↓bqr_531_3, ↓bqr_592_0, ↓bqr_592_1, ↓bqr_592_2, ↓bqr_592_3, ↓bqr_592_4, ↓bqr_592_5, ↓bqr_592_6, ↓bqr_592_7, ↓bqr_592_11, ↓bqr_592_12, ↓bqr_592_13, ↓bqr_592_17, ↓bqr_592_18, ↓bqr_592_19, ↓bqr_592_23, ↓bqr_592_26, ↓bqr_592_27, ↓bqr_592_28, ↓bqg_0_2, ↓bqg_1_4, ↓bqg_1_6, ↓bqg_1_7, ↓bqg_1_9, ↓bqg_1_11, ↓bqg_1_14, ↓bqg_518_3, ↓bqg_518_4, ↓bqg_518_5, ↓bqg_518_8, ↓bqg_518_9, ↓bqg_524_1, ↓bqg_524_3, ↓bqg_528_2, ↓bqg_528_3, ↓bqg_531_2, ↓bqg_535_0, ↓bqg_535_1, ↓bqg_535_2, ↓bqg_535_3, ↓bqg_535_4, ↓bqg_592_8, ↓bqg_592_9, ↓bqg_592_10, ↓bqg_592_14, ↓bqg_592_15, ↓bqg_592_16, ↓bqg_592_20, ↓bqg_592_21, ↓bqg_592_22, ↓bqg_592_24, ↓bqg_592_25, ↓bqg_592_29, ↓bqg_592_30, ↓bqg_592_31, ↓bqg_592_32, ↓bqv_0, ↓bqv_1, ↓bqv_259, ↓bqv_518, ↓bqv_524, ↓bqv_528, ↓bqv_531, ↓bqv_535, ↓bqv_592, ↓bqi_2, ↓bqi_3, ↓bqi_4, ↓bqi_10, ↓bqi_519, ↓bqi_520, ↓bqi_521, ↓bqi_522, ↓bqi_523, ↓bqi_525, ↓bqi_526, ↓bqi_527, ↓bqi_529, ↓bqi_530, ↓bqi_532, ↓bqi_533, ↓bqi_534, ↓bqi_593, ↓bqi_594, ↓bqi_595, ↓bqi_596, ↓bqi_597, ↓bqi_598, ↓bqi_599, ↓bqi_600, ↓bqi_601, ↓bqi_602, ↓bqi_603, ↓bqi_604, ↓bqi_605, ↓bqi_606, ↓bqi_608, ↓bqi_609, ↓bqi_610, ↓bqz_607, ↓bqpkC_1, ↓bqpkC_2, ↓bqpkC_3, ↓bqpkC_4, ↓bqpkC_5, ↓bqpkC_6, ↓bqpkD_1, ↓bqpkN_0, ↓bqpkN_1, ↓bqpkO_1, ↓bqpkQ_1, ↓bqpkW_1, ↓bqpkS_0, ↓bqpkS_2, ↓bqpkS_3, ↓bqpkT_0, ↓bqpkT_1, ↓bqpkF_1, ↓bqpkH_1, ↓bqpkU_0, ↓bqpkU_1, ↓bqpkU_2, ↓bqpkU_3, ↓bqpkU_4, ↓bqpkY_0, ↓bqpkY_1, ↓bqpkY_2, ↓bqskE_, ↓bqskP_, ↓bqskR_, ↓bqskX_, ↓bqskG_, ↓bqskI_, ↓bqskJ_, ↓bqp_0_2, ↓bqp_1_4, ↓bqp_1_6, ↓bqp_1_7, ↓bqp_1_9, ↓bqp_1_11, ↓bqp_1_14, ↓bqp_518_3, ↓bqp_518_4, ↓bqp_518_5, ↓bqp_518_8, ↓bqp_518_9, ↓bqp_524_1, ↓bqp_524_3, ↓bqp_528_2, ↓bqp_528_3, ↓bqp_531_2, ↓bqp_535_0, ↓bqp_535_1, ↓bqp_535_2, ↓bqp_535_3, ↓bqp_535_4, ↓bqp_592_8, ↓bqp_592_9, ↓bqp_592_10, ↓bqp_592_14, ↓bqp_592_15, ↓bqp_592_16, ↓bqp_592_20, ↓bqp_592_21, ↓bqp_592_22, ↓bqp_592_24, ↓bqp_592_25, ↓bqp_592_29, ↓bqp_592_30, ↓bqp_592_31, ↓bqp_592_32, ↓bqs_2, ↓bqs_3, ↓bqs_4, ↓bqs_10, ↓bqs_519, ↓bqs_520, ↓bqs_521, ↓bqs_522, ↓bqs_523, ↓bqs_525, ↓bqs_526, ↓bqs_527, ↓bqs_529, ↓bqs_530, ↓bqs_532, ↓bqs_533, ↓bqs_534, ↓bqs_593, ↓bqs_594, ↓bqs_595, ↓bqs_596, ↓bqs_597, ↓bqs_598, ↓bqs_599, ↓bqs_600, ↓bqs_601, ↓bqs_602, ↓bqs_603, ↓bqs_604, ↓bqs_605, ↓bqs_606, ↓bqs_608, ↓bqs_609, ↓bqs_610, ↓bqt_607, ↓Option.bind_some, ↓bc_isIn, ↓bm_isIn, ↓bm_isShelf, i01, i10, j01, if_true, if_false, not_true_eq_false, not_false_eq_true, and_true, true_and, and_self, false_and, and_false, ↓reduceIte, Int.reduceEq, Int.reduceLT, Int.reduceLE, Int.reduceNeg, Int.reduceAdd, Int.reduceSub, Int.reduceMul, Int.reduceNe, Int.reduceToNat, Nat.reduceAdd, Nat.reduceMul, Nat.reduceEqDiff, hy, eb, ei, wr_n]
          · rw [st_k (by omega)]; exact r4 k hk
          · by_cases e : j = n
            · subst e; rw [st_e]
            · rw [st_k (by omega)]; exact r5 j (by omega)
        · intro m y D hy ⟨r1, r2, r3, r4, r5⟩
          refine ⟨D, ?_, r3, r4, fun n hn => r5 n (by omega)⟩
          show f_X12_leastList_85 SH0_ K 592 what (w : Int) best least (s : Int) (m + 1) D y = _
          rw [f_X12_leastList_85, if_neg (by omega)]
          simp (disch := omega) only [↓bqr_C, ↓bqr_D, ↓bqr_N2, ↓bqr_N3, ↓bqr_O, ↓bqr_Q, ↓bqr_W, ↓bqr_S1, ↓bqr_S4, ↓bqr_T2, ↓bqr_T3, ↓bqr_F, ↓bqr_H, ↓bqa_C, ↓bqa_N, ↓bqa_U, ↓bqa_Y, ↓bqa_W, ↓bqa_S, ↓bqgkC_1, ↓bqgkC_2, ↓bqgkC_3, ↓bqgkC_4, ↓bqgkC_5, ↓bqgkC_6, ↓bqgkD_1, ↓bqgkN_0, ↓bqgkN_1, ↓bqgkO_1, ↓bqgkQ_1, ↓bqgkW_1, ↓bqgkS_0, ↓bqgkS_2, ↓bqgkS_3, ↓bqgkT_0, ↓bqgkT_1, ↓bqgkF_1, ↓bqgkH_1, ↓bqgkU_0, ↓bqgkU_1, ↓bqgkU_2, ↓bqgkU_3, ↓bqgkU_4, ↓bqgkY_0, ↓bqgkY_1, ↓bqgkY_2, ↓bqikE_, ↓bqikP_, ↓bqikR_, ↓bqikX_, ↓bqikG_, ↓bqikI_, ↓bqikJ_, ↓bqvkC_, ↓bqvkD_, ↓bqvkN_, ↓bqvkO_, ↓bqvkQ_, ↓bqvkU_, ↓bqvkY_, ↓bqvkW_, ↓bqvkS_, ↓bqvkT_, ↓bqvkF_, ↓bqvkH_, ↓bqr_0_0, ↓bqr_0_1, ↓bqr_0_3, ↓bqr_0_4, ↓bqr_0_5, ↓bqr_0_6, ↓bqr_0_7, ↓bqr_0_8, ↓bqr_1_0, ↓bqr_1_1, ↓bqr_1_2, ↓bqr_1_3, ↓bqr_1_5, ↓bqr_1_8, ↓bqr_1_10, ↓bqr_1_12, ↓bqr_1_13, ↓bqr_518_0, ↓bqr_518_1, ↓bqr_518_2, ↓bqr_518_6, ↓bqr_518_7, ↓bqr_524_0, ↓bqr_524_2, ↓bqr_524_4, ↓bqr_528_0, ↓bqr_528_1, ↓bqr_531_0, ↓bqr_531_1, ↓bqr_531_3, ↓bqr_592_0, ↓bqr_592_1, ↓bqr_592_2, ↓bqr_592_3, ↓bqr_592_4, ↓bqr_592_5, ↓bqr_592_6, ↓bqr_592_7, ↓bqr_592_11, ↓bqr_592_12, ↓bqr_592_13, ↓bqr_592_17, ↓bqr_592_18, ↓bqr_592_19, ↓bqr_592_23, ↓bqr_592_26, ↓bqr_592_27, ↓bqr_592_28, ↓bqg_0_2, ↓bqg_1_4, ↓bqg_1_6, ↓bqg_1_7, ↓bqg_1_9, ↓bqg_1_11, ↓bqg_1_14, ↓bqg_518_3, ↓bqg_518_4, ↓bqg_518_5, ↓bqg_518_8, ↓bqg_518_9, ↓bqg_524_1, ↓bqg_524_3, ↓bqg_528_2, ↓bqg_528_3, ↓bqg_531_2, ↓bqg_535_0, ↓bqg_535_1, ↓bqg_535_2, ↓bqg_535_3, ↓bqg_535_4, ↓bqg_592_8, ↓bqg_592_9, ↓bqg_592_10, ↓bqg_592_14, ↓bqg_592_15, ↓bqg_592_16, ↓bqg_592_20, ↓bqg_592_21, ↓bqg_592_22, ↓bqg_592_24, ↓bqg_592_25, ↓bqg_592_29, ↓bqg_592_30, ↓bqg_592_31, ↓bqg_592_32, ↓bqv_0, ↓bqv_1, ↓bqv_259, ↓bqv_518, ↓bqv_524, ↓bqv_528, ↓bqv_531, ↓bqv_535, ↓bqv_592, ↓bqi_2, ↓bqi_3, ↓bqi_4, ↓bqi_10, ↓bqi_519, ↓bqi_520, ↓bqi_521, ↓bqi_522, ↓bqi_523, ↓bqi_525, ↓bqi_526, ↓bqi_527, ↓bqi_529, ↓bqi_530, ↓bqi_532, ↓bqi_533, ↓bqi_534, ↓bqi_593, ↓bqi_594, ↓bqi_595, ↓bqi_596, ↓bqi_597, ↓bqi_598, ↓bqi_599, ↓bqi_600, ↓bqi_601, ↓bqi_602, ↓bqi_603, ↓bqi_604, ↓bqi_605, ↓bqi_606, ↓bqi_608, ↓bqi_609, ↓bqi_610, ↓bqz_607, wr_n]
      obtain ⟨D, d1, d2, d3, d4⟩ := inner
      obtain ⟨hl, hc⟩ := hbd s hsW
      obtain ⟨E, l1, l2⟩ := m_listed (us := s ||| ac_ us 1023) b4 b6 hN hCC d3 hw10 (B := D) rfl (OF_Ub d3 hw b6 hU (by omega) d4) hc
      have hE593 : E 593 = D 593 := l2 593 (by decide) (by decide)
      have fr : ∀ b, b ≠ 593 → b ≠ 601 → b ≠ 602 → E b = C0 b := fun b b1 b2 b3 => ((l2 b b2 b3).trans (d2 b b1)).trans (q3 b b1 b2 b3)
      have go : f_X12_leastList_74 SH0_ 592 what (w : Int) (fu + 1) C best least (s : Int) = if lsv_ v (ac_ us 1023) s < least then K E (s : Int) (lsv_ v (ac_ us 1023) s) ((s : Int) + 1) else K E best least ((s : Int) + 1) := by
        rw [f_X12_leastList_74, hK, hsl, if_pos hx, d1, l1]
        rfl
      refine Or.inl ?_
      by_cases hlt : lsv_ v (ac_ us 1023) s < least
      · rw [if_pos hlt] at go
        refine ⟨(E, (s : Int), lsv_ v (ac_ us 1023) s), by rw [← hK] at go; exact go, by omega, by omega, fr, by show OF_ v (E 593) w; rw [hE593]; exact d3, Or.inr ⟨s, rfl, ?_⟩⟩
        rw [es1]
        rcases q5 with ⟨e1, e2, e3⟩ | ⟨r, e1, e2⟩
        · have es0 : s = 0 := by omega
          subst es0
          refine ⟨by omega, rfl, fun t ht => absurd ht (Nat.not_lt_zero _), fun t ht => ?_⟩
          have : t = 0 := by omega
          subst this; exact Int.le_refl _
        · rw [es] at e2; exact AM_new e2 hlt
      · rw [if_neg hlt] at go
        refine ⟨(E, best, least), by rw [← hK] at go; exact go, by omega, by omega, fr, by show OF_ v (E 593) w; rw [hE593]; exact d3, Or.inr ?_⟩
        rw [es1]
        rcases q5 with ⟨e1, e2, e3⟩ | ⟨r, e1, e2⟩
        · omega
        · rw [es] at e2; exact ⟨r, e1, AM_keep e2 hlt⟩
    · intro fu x a hx ⟨q1, q2, q3, q4, q5⟩
      obtain ⟨C, best, least⟩ := a
      dsimp only at q3 q4 q5
      have ex : x = (W : Int) := by omega
      subst ex
      rcases q5 with ⟨e1, _⟩ | ⟨r, e1, e2⟩
      · omega
      subst e1
      rw [show ((W : Int)).toNat = W by omega] at e2
      refine ⟨C, r, least, ?_, q3, q4, e2⟩
      show f_X12_leastList_74 SH0_ 592 what (w : Int) (fu + 1) C (r : Int) least (W : Int) = _
      rw [f_X12_leastList_74, hsl, if_neg (by omega)]
    · show OF_ v (C0 593) w
      intro k _
      rw [p2 593 (by decide), hWB.1]
  obtain ⟨C, r, m, t1, t2, t3, t4⟩ := P2
  rw [t1]
  have P3 : ∃ E, f_X12_leastList_153 SH0_ 592 what (w : Int) ((r : Nat) : Int) m FU_ C 0 = some (E, if what = 0 then m else ((r : Nat) : Int)) ∧ (∀ a, a ≠ 593 → E a = C a) ∧ E 593 = v := by
    refine lp_run (A := Mem_m) (fun n x D => f_X12_leastList_153 SH0_ 592 what (w : Int) ((r : Nat) : Int) m n D x) (w : Int) (fun x D => 0 ≤ x ∧ x ≤ w ∧ (∀ a, a ≠ 593 → D a = C a) ∧ OF_ v (D 593) w ∧ ∀ n : Nat, (n : Int) < x → D 593 (606 + 7 * n) = v (606 + 7 * n)) (fun o => ∃ E, o = some (E, if what = 0 then m else ((r : Nat) : Int)) ∧ (∀ a, a ≠ 593 → E a = C a) ∧ E 593 = v) ?_ ?_ FU_ 0 C (by unfold FU_; omega) ⟨by omega, by omega, fun _ _ => rfl, t3, fun n hn => absurd hn (by omega)⟩
    · intro fu x D hx ⟨q1, q2, q3, q4, q5⟩
      obtain ⟨n, rfl⟩ := int_nat q1
      have en : ((n : Int)).toNat = n := by omega
      have ei : (600 + 7 * (n : Int) + 6).toNat = 606 + 7 * n := by omega
      have e603 : D 603 n = v (606 + 7 * n) := by rw [q3 603 (by decide), t2 603 (by decide) (by decide) (by decide)]; exact p3 n (by omega)
      refine Or.inl ⟨st_m D 593 (606 + 7 * n) (v (606 + 7 * n)), ?_, by omega, by omega, fun a ha => (st_o2 ha).trans (q3 a ha), fun k hk => ?_, fun j hj => ?_⟩
      · show f_X12_leastList_153 SH0_ 592 what (w : Int) ((r : Nat) : Int) m (fu + 1) D (n : Int) = _
        rw [f_X12_leastList_153]
        simp (disch := omega) only [↓bqr_C, ↓bqr_D, ↓bqr_N2, ↓bqr_N3, ↓bqr_O, ↓bqr_Q, ↓bqr_W, ↓bqr_S1, ↓bqr_S4, ↓bqr_T2, ↓bqr_T3, ↓bqr_F, ↓bqr_H, ↓bqa_C, ↓bqa_N, ↓bqa_U, ↓bqa_Y, ↓bqa_W, ↓bqa_S, ↓bqgkC_1, ↓bqgkC_2, ↓bqgkC_3, ↓bqgkC_4, ↓bqgkC_5, ↓bqgkC_6, ↓bqgkD_1, ↓bqgkN_0, ↓bqgkN_1, ↓bqgkO_1, ↓bqgkQ_1, ↓bqgkW_1, ↓bqgkS_0, ↓bqgkS_2, ↓bqgkS_3, ↓bqgkT_0, ↓bqgkT_1, ↓bqgkF_1, ↓bqgkH_1, ↓bqgkU_0, ↓bqgkU_1, ↓bqgkU_2, ↓bqgkU_3, ↓bqgkU_4, ↓bqgkY_0, ↓bqgkY_1, ↓bqgkY_2, ↓bqikE_, ↓bqikP_, ↓bqikR_, ↓bqikX_, ↓bqikG_, ↓bqikI_, ↓bqikJ_, ↓bqvkC_, ↓bqvkD_, ↓bqvkN_, ↓bqvkO_, ↓bqvkQ_, ↓bqvkU_, ↓bqvkY_, ↓bqvkW_, ↓bqvkS_, ↓bqvkT_, ↓bqvkF_, ↓bqvkH_, ↓bqr_0_0, ↓bqr_0_1, ↓bqr_0_3, ↓bqr_0_4, ↓bqr_0_5, ↓bqr_0_6, ↓bqr_0_7, ↓bqr_0_8, ↓bqr_1_0, ↓bqr_1_1, ↓bqr_1_2, ↓bqr_1_3, ↓bqr_1_5, ↓bqr_1_8, ↓bqr_1_10, ↓bqr_1_12, ↓bqr_1_13, ↓bqr_518_0, ↓bqr_518_1, ↓bqr_518_2, ↓bqr_518_6, ↓bqr_518_7, ↓bqr_524_0, ↓bqr_524_2, ↓bqr_524_4, ↓bqr_528_0, ↓bqr_528_1, ↓bqr_531_0, ↓bqr_531_1, ↓bqr_531_3, ↓bqr_592_0, ↓bqr_592_1, ↓bqr_592_2, ↓bqr_592_3, ↓bqr_592_4, ↓bqr_592_5, ↓bqr_592_6, ↓bqr_592_7, ↓bqr_592_11, ↓bqr_592_12, ↓bqr_592_13, ↓bqr_592_17, ↓bqr_592_18, ↓bqr_592_19, ↓bqr_592_23, ↓bqr_592_26, ↓bqr_592_27, ↓bqr_592_28, ↓bqg_0_2, ↓bqg_1_4, ↓bqg_1_6, ↓bqg_1_7, ↓bqg_1_9, ↓bqg_1_11, ↓bqg_1_14, ↓bqg_518_3, ↓bqg_518_4, ↓bqg_518_5, ↓bqg_518_8, ↓bqg_518_9, ↓bqg_524_1, ↓bqg_524_3, ↓bqg_528_2, ↓bqg_528_3, ↓bqg_531_2, ↓bqg_535_0, ↓bqg_535_1, ↓bqg_535_2, ↓bqg_535_3, ↓bqg_535_4, ↓bqg_592_8, ↓bqg_592_9, ↓bqg_592_10, ↓bqg_592_14, ↓bqg_592_15, ↓bqg_592_16, ↓bqg_592_20, ↓bqg_592_21, ↓bqg_592_22, ↓bqg_592_24, ↓bqg_592_25, ↓bqg_592_29, ↓bqg_592_30, ↓bqg_592_31, ↓bqg_592_32, ↓bqv_0, ↓bqv_1, ↓bqv_259, ↓bqv_518, ↓bqv_524, ↓bqv_528, ↓bqv_531, ↓bqv_535, ↓bqv_592, ↓bqi_2, ↓bqi_3, ↓bqi_4, ↓bqi_10, ↓bqi_519, ↓bqi_520, ↓bqi_521, ↓bqi_522, ↓bqi_523, ↓bqi_525, ↓bqi_526, ↓bqi_527, ↓bqi_529, ↓bqi_530, ↓bqi_532, ↓bqi_533, ↓bqi_534, ↓bqi_593, ↓bqi_594, ↓bqi_595, ↓bqi_596, ↓bqi_597, ↓bqi_598, ↓bqi_599, ↓bqi_600, ↓bqi_601, ↓bqi_602, ↓bqi_603, ↓bqi_604, ↓bqi_605, ↓bqi_606, ↓bqi_608, ↓bqi_609, ↓bqi_610, ↓bqz_607, ↓bqpkC_1, ↓bqpkC_2, ↓bqpkC_3, ↓bqpkC_4, ↓bqpkC_5, ↓bqpkC_6, ↓bqpkD_1, ↓bqpkN_0, ↓bqpkN_1, ↓bqpkO_1, ↓bqpkQ_1, ↓bqpkW_1, ↓bqpkS_0, ↓bqpkS_2, ↓bqpkS_3, ↓bqpkT_0, ↓bqpkT_1, ↓bqpkF_1, ↓bqpkH_1, ↓bqpkU_0, ↓bqpkU_1, ↓bqpkU_2, ↓bqpkU_3, ↓bqpkU_4, ↓bqpkY_0, ↓bqpkY_1, ↓bqpkY_2, ↓bqskE_, ↓bqskP_, ↓bqskR_, ↓bqskX_, ↓bqskG_, ↓bqskI_, ↓bqskJ_, ↓bqp_0_2, ↓bqp_1_4, ↓bqp_1_6, ↓bqp_1_7, ↓bqp_1_9, ↓bqp_1_11, ↓bqp_1_14, ↓bqp_518_3, ↓bqp_518_4, ↓bqp_518_5, ↓bqp_518_8, ↓bqp_518_9, ↓bqp_524_1, ↓bqp_524_3, ↓bqp_528_2, ↓bqp_528_3, ↓bqp_531_2, ↓bqp_535_0, ↓bqp_535_1, ↓bqp_535_2, ↓bqp_535_3, ↓bqp_535_4, ↓bqp_592_8, ↓bqp_592_9, ↓bqp_592_10, ↓bqp_592_14, ↓bqp_592_15, ↓bqp_592_16, ↓bqp_592_20, ↓bqp_592_21, ↓bqp_592_22, ↓bqp_592_24, ↓bqp_592_25, ↓bqp_592_29, ↓bqp_592_30, ↓bqp_592_31, ↓bqp_592_32, ↓bqs_2, ↓bqs_3, ↓bqs_4, ↓bqs_10, ↓bqs_519, ↓bqs_520, ↓bqs_521, ↓bqs_522, ↓bqs_523, ↓bqs_525, ↓bqs_526, ↓bqs_527, ↓bqs_529, ↓bqs_530, ↓bqs_532, ↓bqs_533, ↓bqs_534, ↓bqs_593, ↓bqs_594, ↓bqs_595, ↓bqs_596, ↓bqs_597, ↓bqs_598, ↓bqs_599, ↓bqs_600, ↓bqs_601, ↓bqs_602, ↓bqs_603, ↓bqs_604, ↓bqs_605, ↓bqs_606, ↓bqs_608, ↓bqs_609, ↓bqs_610, ↓bqt_607, ↓Option.bind_some, ↓bc_isIn, ↓bm_isIn, ↓bm_isShelf, i01, i10, j01, if_true, if_false, not_true_eq_false, not_false_eq_true, and_true, true_and, and_self, false_and, and_false, ↓reduceIte, Int.reduceEq, Int.reduceLT, Int.reduceLE, Int.reduceNeg, Int.reduceAdd, Int.reduceSub, Int.reduceMul, Int.reduceNe, Int.reduceToNat, Nat.reduceAdd, Nat.reduceMul, Nat.reduceEqDiff, hx, en, e603, ei, wr_n]
      · rw [st_k (by omega)]; exact q4 k hk
      · by_cases e : j = n
        · subst e; rw [st_e]
        · rw [st_k (by omega)]; exact q5 j (by omega)
    · intro fu x D hx ⟨q1, q2, q3, q4, q5⟩
      have hx' : ¬ x < (w : Int) := by omega
      refine ⟨D, ?_, q3, ?_⟩
      · show f_X12_leastList_153 SH0_ 592 what (w : Int) ((r : Nat) : Int) m (fu + 1) D x = _
        rw [f_X12_leastList_153, if_neg hx']
        by_cases g : what = 0
        · rw [if_pos g, if_pos g]
        · rw [if_neg g, if_neg g]
      · funext k
        by_cases hk : 606 ≤ k ∧ (k - 606) % 7 = 0 ∧ (k - 606) / 7 < w
        · have := q5 ((k - 606) / 7) (by omega)
          rw [show 606 + 7 * ((k - 606) / 7) = k by omega] at this
          exact this
        · exact q4 k hk
  obtain ⟨E, u1, u2, u3⟩ := P3
  refine ⟨E, r, m, u1, ⟨fun a a1 a2 a3 a4 => ?_, ?_, ?_⟩, t4⟩
  · by_cases e : a = 593
    · subst e; rw [u3, hWB.1]
    · rw [u2 a e, t2 a e (by omega) (by omega), p2 a (by omega)]
  · rw [u2 0 (by decide), t2 0 (by decide) (by decide) (by decide), p2 0 (by decide)]
  · rw [u2 592 (by decide), t2 592 (by decide) (by decide) (by decide), p2 592 (by decide)]
theorem cl_b (hV : Vw M v) {x : Int} (hU : us < 65536) (h1 : 0 ≤ x) (h2 : x < v 1062) : 0 ≤ cl_ v us x ∧ cl_ v us x ≤ 40 := by
  unfold cl_
  split
  · obtain ⟨M2, e1, e2, e3⟩ := c_find hV h1 h2
    obtain ⟨A', f1, f2, f3, f4, f5⟩ := c_cost (Nb_of hV) (Cb_of hV h1 h2) (vb_6 hV) hU e3
    exact ⟨f4, f5⟩
  · omega
theorem sim10 : sim_10 R_ := by
  intro M a1 o1 hM hR
  obtain ⟨v, hV⟩ := vw_of hR
  have b6 := vb_6 hV
  unfold f_X11_leastList f_X12_leastList
  by_cases h1 : 0 ≤ a1 ∧ a1 < 2
  rotate_left
  · have h1' : ¬ (0 ≤ a1 ∧ a1 ≤ 1) := by omega
    refine ⟨-1, M, M, ?_, ?_, hR⟩
    · simp (disch := omega) only [↓bqr_C, ↓bqr_D, ↓bqr_N2, ↓bqr_N3, ↓bqr_O, ↓bqr_Q, ↓bqr_W, ↓bqr_S1, ↓bqr_S4, ↓bqr_T2, ↓bqr_T3, ↓bqr_F, ↓bqr_H, ↓bqa_C, ↓bqa_N, ↓bqa_U, ↓bqa_Y, ↓bqa_W, ↓bqa_S, ↓bqgkC_1, ↓bqgkC_2, ↓bqgkC_3, ↓bqgkC_4, ↓bqgkC_5, ↓bqgkC_6, ↓bqgkD_1, ↓bqgkN_0, ↓bqgkN_1, ↓bqgkO_1, ↓bqgkQ_1, ↓bqgkW_1, ↓bqgkS_0, ↓bqgkS_2, ↓bqgkS_3, ↓bqgkT_0, ↓bqgkT_1, ↓bqgkF_1, ↓bqgkH_1, ↓bqgkU_0, ↓bqgkU_1, ↓bqgkU_2, ↓bqgkU_3, ↓bqgkU_4, ↓bqgkY_0, ↓bqgkY_1, ↓bqgkY_2, ↓bqikE_, ↓bqikP_, ↓bqikR_, ↓bqikX_, ↓bqikG_, ↓bqikI_, ↓bqikJ_, ↓bqvkC_, ↓bqvkD_, ↓bqvkN_, ↓bqvkO_, ↓bqvkQ_, ↓bqvkU_, ↓bqvkY_, ↓bqvkW_, ↓bqvkS_, ↓bqvkT_, ↓bqvkF_, ↓bqvkH_, ↓bqr_0_0, ↓bqr_0_1, ↓bqr_0_3, ↓bqr_0_4, ↓bqr_0_5, ↓bqr_0_6, ↓bqr_0_7, ↓bqr_0_8, ↓bqr_1_0, ↓bqr_1_1, ↓bqr_1_2, ↓bqr_1_3, ↓bqr_1_5, ↓bqr_1_8, ↓bqr_1_10, ↓bqr_1_12, ↓bqr_1_13, ↓bqr_518_0, ↓bqr_518_1, ↓bqr_518_2, ↓bqr_518_6, ↓bqr_518_7, ↓bqr_524_0, ↓bqr_524_2, ↓bqr_524_4, ↓bqr_528_0, ↓bqr_528_1, ↓bqr_531_0, ↓bqr_531_1, ↓bqr_531_3, ↓bqr_592_0, ↓bqr_592_1, ↓bqr_592_2, ↓bqr_592_3, ↓bqr_592_4, ↓bqr_592_5, ↓bqr_592_6, ↓bqr_592_7, ↓bqr_592_11, ↓bqr_592_12, ↓bqr_592_13, ↓bqr_592_17, ↓bqr_592_18, ↓bqr_592_19, ↓bqr_592_23, ↓bqr_592_26, ↓bqr_592_27, ↓bqr_592_28, ↓bqg_0_2, ↓bqg_1_4, ↓bqg_1_6, ↓bqg_1_7, ↓bqg_1_9, ↓bqg_1_11, ↓bqg_1_14, ↓bqg_518_3, ↓bqg_518_4, ↓bqg_518_5, ↓bqg_518_8, ↓bqg_518_9, ↓bqg_524_1, ↓bqg_524_3, ↓bqg_528_2, ↓bqg_528_3, ↓bqg_531_2, ↓bqg_535_0, ↓bqg_535_1, ↓bqg_535_2, ↓bqg_535_3, ↓bqg_535_4, ↓bqg_592_8, ↓bqg_592_9, ↓bqg_592_10, ↓bqg_592_14, ↓bqg_592_15, ↓bqg_592_16, ↓bqg_592_20, ↓bqg_592_21, ↓bqg_592_22, ↓bqg_592_24, ↓bqg_592_25, ↓bqg_592_29, ↓bqg_592_30, ↓bqg_592_31, ↓bqg_592_32, ↓bqv_0, ↓bqv_1, ↓bqv_259, ↓bqv_518, ↓bqv_524, ↓bqv_528, ↓bqv_531, ↓bqv_535, ↓bqv_592, ↓bqi_2, ↓bqi_3, ↓bqi_4, ↓bqi_10, ↓bqi_519, ↓bqi_520, ↓bqi_521, ↓bqi_522, ↓bqi_523, ↓bqi_525, ↓bqi_526, ↓bqi_527, ↓bqi_529, ↓bqi_530, ↓bqi_532, ↓bqi_533, ↓bqi_534, ↓bqi_593, ↓bqi_594, ↓bqi_595, ↓bqi_596, ↓bqi_597, ↓bqi_598, ↓bqi_599, ↓bqi_600, ↓bqi_601, ↓bqi_602, ↓bqi_603, ↓bqi_604, ↓bqi_605, ↓bqi_606, ↓bqi_608, ↓bqi_609, ↓bqi_610, ↓bqz_607, ↓Option.bind_some, ↓bc_isIn, ↓bm_isIn, ↓bm_isShelf, i01, i10, j01, if_true, if_false, not_true_eq_false, not_false_eq_true, and_true, true_and, and_self, false_and, and_false, ↓reduceIte, Int.reduceEq, Int.reduceLT, Int.reduceLE, Int.reduceNeg, Int.reduceAdd, Int.reduceSub, Int.reduceMul, Int.reduceNe, Int.reduceToNat, Nat.reduceAdd, Nat.reduceMul, Nat.reduceEqDiff, h1]
    · simp (disch := omega) only [↓bqr_C, ↓bqr_D, ↓bqr_N2, ↓bqr_N3, ↓bqr_O, ↓bqr_Q, ↓bqr_W, ↓bqr_S1, ↓bqr_S4, ↓bqr_T2, ↓bqr_T3, ↓bqr_F, ↓bqr_H, ↓bqa_C, ↓bqa_N, ↓bqa_U, ↓bqa_Y, ↓bqa_W, ↓bqa_S, ↓bqgkC_1, ↓bqgkC_2, ↓bqgkC_3, ↓bqgkC_4, ↓bqgkC_5, ↓bqgkC_6, ↓bqgkD_1, ↓bqgkN_0, ↓bqgkN_1, ↓bqgkO_1, ↓bqgkQ_1, ↓bqgkW_1, ↓bqgkS_0, ↓bqgkS_2, ↓bqgkS_3, ↓bqgkT_0, ↓bqgkT_1, ↓bqgkF_1, ↓bqgkH_1, ↓bqgkU_0, ↓bqgkU_1, ↓bqgkU_2, ↓bqgkU_3, ↓bqgkU_4, ↓bqgkY_0, ↓bqgkY_1, ↓bqgkY_2, ↓bqikE_, ↓bqikP_, ↓bqikR_, ↓bqikX_, ↓bqikG_, ↓bqikI_, ↓bqikJ_, ↓bqvkC_, ↓bqvkD_, ↓bqvkN_, ↓bqvkO_, ↓bqvkQ_, ↓bqvkU_, ↓bqvkY_, ↓bqvkW_, ↓bqvkS_, ↓bqvkT_, ↓bqvkF_, ↓bqvkH_, ↓bqr_0_0, ↓bqr_0_1, ↓bqr_0_3, ↓bqr_0_4, ↓bqr_0_5, ↓bqr_0_6, ↓bqr_0_7, ↓bqr_0_8, ↓bqr_1_0, ↓bqr_1_1, ↓bqr_1_2, ↓bqr_1_3, ↓bqr_1_5, ↓bqr_1_8, ↓bqr_1_10, ↓bqr_1_12, ↓bqr_1_13, ↓bqr_518_0, ↓bqr_518_1, ↓bqr_518_2, ↓bqr_518_6, ↓bqr_518_7, ↓bqr_524_0, ↓bqr_524_2, ↓bqr_524_4, ↓bqr_528_0, ↓bqr_528_1, ↓bqr_531_0, ↓bqr_531_1, ↓bqr_531_3, ↓bqr_592_0, ↓bqr_592_1, ↓bqr_592_2, ↓bqr_592_3, ↓bqr_592_4, ↓bqr_592_5, ↓bqr_592_6, ↓bqr_592_7, ↓bqr_592_11, ↓bqr_592_12, ↓bqr_592_13, ↓bqr_592_17, ↓bqr_592_18, ↓bqr_592_19, ↓bqr_592_23, ↓bqr_592_26, ↓bqr_592_27, ↓bqr_592_28, ↓bqg_0_2, ↓bqg_1_4, ↓bqg_1_6, ↓bqg_1_7, ↓bqg_1_9, ↓bqg_1_11, ↓bqg_1_14, ↓bqg_518_3, ↓bqg_518_4, ↓bqg_518_5, ↓bqg_518_8, ↓bqg_518_9, ↓bqg_524_1, ↓bqg_524_3, ↓bqg_528_2, ↓bqg_528_3, ↓bqg_531_2, ↓bqg_535_0, ↓bqg_535_1, ↓bqg_535_2, ↓bqg_535_3, ↓bqg_535_4, ↓bqg_592_8, ↓bqg_592_9, ↓bqg_592_10, ↓bqg_592_14, ↓bqg_592_15, ↓bqg_592_16, ↓bqg_592_20, ↓bqg_592_21, ↓bqg_592_22, ↓bqg_592_24, ↓bqg_592_25, ↓bqg_592_29, ↓bqg_592_30, ↓bqg_592_31, ↓bqg_592_32, ↓bqv_0, ↓bqv_1, ↓bqv_259, ↓bqv_518, ↓bqv_524, ↓bqv_528, ↓bqv_531, ↓bqv_535, ↓bqv_592, ↓bqi_2, ↓bqi_3, ↓bqi_4, ↓bqi_10, ↓bqi_519, ↓bqi_520, ↓bqi_521, ↓bqi_522, ↓bqi_523, ↓bqi_525, ↓bqi_526, ↓bqi_527, ↓bqi_529, ↓bqi_530, ↓bqi_532, ↓bqi_533, ↓bqi_534, ↓bqi_593, ↓bqi_594, ↓bqi_595, ↓bqi_596, ↓bqi_597, ↓bqi_598, ↓bqi_599, ↓bqi_600, ↓bqi_601, ↓bqi_602, ↓bqi_603, ↓bqi_604, ↓bqi_605, ↓bqi_606, ↓bqi_608, ↓bqi_609, ↓bqi_610, ↓bqz_607, ↓Option.bind_some, ↓bc_isIn, ↓bm_isIn, ↓bm_isShelf, i01, i10, j01, if_true, if_false, not_true_eq_false, not_false_eq_true, and_true, true_and, and_self, false_and, and_false, ↓reduceIte, Int.reduceEq, Int.reduceLT, Int.reduceLE, Int.reduceNeg, Int.reduceAdd, Int.reduceSub, Int.reduceMul, Int.reduceNe, Int.reduceToNat, Nat.reduceAdd, Nat.reduceMul, Nat.reduceEqDiff, i0s, h1']
  have h1' : 0 ≤ a1 ∧ a1 ≤ 1 := by omega
  obtain ⟨us, hu, hU⟩ := U_of hV
  obtain ⟨w, hw⟩ : ∃ w : Nat, min (v 1063) 10 = (w : Int) := int_nat (by omega)
  have hw10 : w ≤ 10 := by omega
  have hsl : sl_i 1 (w : Int) = ((2 ^ w : Nat) : Int) := sl_nat (by omega)
  have hWle : 2 ^ w ≤ 2 ^ 10 := Nat.pow_le_pow_right (by decide) hw10
  have hW1 := Nat.two_pow_pos w
  obtain ⟨A, r, m, e1, e2, e3, e4, e5, e6⟩ := c_leastList hV hu hU.1 (W := 2 ^ w) (by omega) (by rw [hw]; exact hsl)
  have hVA := vw_sm hV e2
  have hal := ac_le us 1023
  have hul := hU.1
  obtain ⟨E, r', m', n1, n2, n3⟩ := m_leastList (w := w) hVA hU hw.symm (W := 2 ^ w) rfl hsl (what := a1) (fun s hs => ⟨e6 s hs, fun x x1 x2 => cl_b hV (Nat.or_lt_two_pow (n := 16) (by omega) (by omega)) x1 x2⟩)
  obtain ⟨er, em⟩ := AM_uniq n3 e5
  subst er em
  have hWA := mw_of hVA
  refine ⟨if a1 = 0 then m' else ((r' : Nat) : Int), A, E, ?_, ?_, R_same n2 (vw_R hVA)⟩
  · by_cases g : a1 = 0
    · simp (disch := omega) only [↓bqr_C, ↓bqr_D, ↓bqr_N2, ↓bqr_N3, ↓bqr_O, ↓bqr_Q, ↓bqr_W, ↓bqr_S1, ↓bqr_S4, ↓bqr_T2, ↓bqr_T3, ↓bqr_F, ↓bqr_H, ↓bqa_C, ↓bqa_N, ↓bqa_U, ↓bqa_Y, ↓bqa_W, ↓bqa_S, ↓bqgkC_1, ↓bqgkC_2, ↓bqgkC_3, ↓bqgkC_4, ↓bqgkC_5, ↓bqgkC_6, ↓bqgkD_1, ↓bqgkN_0, ↓bqgkN_1, ↓bqgkO_1, ↓bqgkQ_1, ↓bqgkW_1, ↓bqgkS_0, ↓bqgkS_2, ↓bqgkS_3, ↓bqgkT_0, ↓bqgkT_1, ↓bqgkF_1, ↓bqgkH_1, ↓bqgkU_0, ↓bqgkU_1, ↓bqgkU_2, ↓bqgkU_3, ↓bqgkU_4, ↓bqgkY_0, ↓bqgkY_1, ↓bqgkY_2, ↓bqikE_, ↓bqikP_, ↓bqikR_, ↓bqikX_, ↓bqikG_, ↓bqikI_, ↓bqikJ_, ↓bqvkC_, ↓bqvkD_, ↓bqvkN_, ↓bqvkO_, ↓bqvkQ_, ↓bqvkU_, ↓bqvkY_, ↓bqvkW_, ↓bqvkS_, ↓bqvkT_, ↓bqvkF_, ↓bqvkH_, ↓bqr_0_0, ↓bqr_0_1, ↓bqr_0_3, ↓bqr_0_4, ↓bqr_0_5, ↓bqr_0_6, ↓bqr_0_7, ↓bqr_0_8, ↓bqr_1_0, ↓bqr_1_1, ↓bqr_1_2, ↓bqr_1_3, ↓bqr_1_5, ↓bqr_1_8, ↓bqr_1_10, ↓bqr_1_12, ↓bqr_1_13, ↓bqr_518_0, ↓bqr_518_1, ↓bqr_518_2, ↓bqr_518_6, ↓bqr_518_7, ↓bqr_524_0, ↓bqr_524_2, ↓bqr_524_4, ↓bqr_528_0, ↓bqr_528_1, ↓bqr_531_0, ↓bqr_531_1, ↓bqr_531_3, ↓bqr_592_0, ↓bqr_592_1, ↓bqr_592_2, ↓bqr_592_3, ↓bqr_592_4, ↓bqr_592_5, ↓bqr_592_6, ↓bqr_592_7, ↓bqr_592_11, ↓bqr_592_12, ↓bqr_592_13, ↓bqr_592_17, ↓bqr_592_18, ↓bqr_592_19, ↓bqr_592_23, ↓bqr_592_26, ↓bqr_592_27, ↓bqr_592_28, ↓bqg_0_2, ↓bqg_1_4, ↓bqg_1_6, ↓bqg_1_7, ↓bqg_1_9, ↓bqg_1_11, ↓bqg_1_14, ↓bqg_518_3, ↓bqg_518_4, ↓bqg_518_5, ↓bqg_518_8, ↓bqg_518_9, ↓bqg_524_1, ↓bqg_524_3, ↓bqg_528_2, ↓bqg_528_3, ↓bqg_531_2, ↓bqg_535_0, ↓bqg_535_1, ↓bqg_535_2, ↓bqg_535_3, ↓bqg_535_4, ↓bqg_592_8, ↓bqg_592_9, ↓bqg_592_10, ↓bqg_592_14, ↓bqg_592_15, ↓bqg_592_16, ↓bqg_592_20, ↓bqg_592_21, ↓bqg_592_22, ↓bqg_592_24, ↓bqg_592_25, ↓bqg_592_29, ↓bqg_592_30, ↓bqg_592_31, ↓bqg_592_32, ↓bqv_0, ↓bqv_1, ↓bqv_259, ↓bqv_518, ↓bqv_524, ↓bqv_528, ↓bqv_531, ↓bqv_535, ↓bqv_592, ↓bqi_2, ↓bqi_3, ↓bqi_4, ↓bqi_10, ↓bqi_519, ↓bqi_520, ↓bqi_521, ↓bqi_522, ↓bqi_523, ↓bqi_525, ↓bqi_526, ↓bqi_527, ↓bqi_529, ↓bqi_530, ↓bqi_532, ↓bqi_533, ↓bqi_534, ↓bqi_593, ↓bqi_594, ↓bqi_595, ↓bqi_596, ↓bqi_597, ↓bqi_598, ↓bqi_599, ↓bqi_600, ↓bqi_601, ↓bqi_602, ↓bqi_603, ↓bqi_604, ↓bqi_605, ↓bqi_606, ↓bqi_608, ↓bqi_609, ↓bqi_610, ↓bqz_607, ↓Option.bind_some, ↓bc_isIn, ↓bm_isIn, ↓bm_isShelf, i01, i10, j01, if_true, if_false, not_true_eq_false, not_false_eq_true, and_true, true_and, and_self, false_and, and_false, ↓reduceIte, Int.reduceEq, Int.reduceLT, Int.reduceLE, Int.reduceNeg, Int.reduceAdd, Int.reduceSub, Int.reduceMul, Int.reduceNe, Int.reduceToNat, Nat.reduceAdd, Nat.reduceMul, Nat.reduceEqDiff, h1, ↓bnd e1, g, e4]
    · simp (disch := omega) only [↓bqr_C, ↓bqr_D, ↓bqr_N2, ↓bqr_N3, ↓bqr_O, ↓bqr_Q, ↓bqr_W, ↓bqr_S1, ↓bqr_S4, ↓bqr_T2, ↓bqr_T3, ↓bqr_F, ↓bqr_H, ↓bqa_C, ↓bqa_N, ↓bqa_U, ↓bqa_Y, ↓bqa_W, ↓bqa_S, ↓bqgkC_1, ↓bqgkC_2, ↓bqgkC_3, ↓bqgkC_4, ↓bqgkC_5, ↓bqgkC_6, ↓bqgkD_1, ↓bqgkN_0, ↓bqgkN_1, ↓bqgkO_1, ↓bqgkQ_1, ↓bqgkW_1, ↓bqgkS_0, ↓bqgkS_2, ↓bqgkS_3, ↓bqgkT_0, ↓bqgkT_1, ↓bqgkF_1, ↓bqgkH_1, ↓bqgkU_0, ↓bqgkU_1, ↓bqgkU_2, ↓bqgkU_3, ↓bqgkU_4, ↓bqgkY_0, ↓bqgkY_1, ↓bqgkY_2, ↓bqikE_, ↓bqikP_, ↓bqikR_, ↓bqikX_, ↓bqikG_, ↓bqikI_, ↓bqikJ_, ↓bqvkC_, ↓bqvkD_, ↓bqvkN_, ↓bqvkO_, ↓bqvkQ_, ↓bqvkU_, ↓bqvkY_, ↓bqvkW_, ↓bqvkS_, ↓bqvkT_, ↓bqvkF_, ↓bqvkH_, ↓bqr_0_0, ↓bqr_0_1, ↓bqr_0_3, ↓bqr_0_4, ↓bqr_0_5, ↓bqr_0_6, ↓bqr_0_7, ↓bqr_0_8, ↓bqr_1_0, ↓bqr_1_1, ↓bqr_1_2, ↓bqr_1_3, ↓bqr_1_5, ↓bqr_1_8, ↓bqr_1_10, ↓bqr_1_12, ↓bqr_1_13, ↓bqr_518_0, ↓bqr_518_1, ↓bqr_518_2, ↓bqr_518_6, ↓bqr_518_7, ↓bqr_524_0, ↓bqr_524_2, ↓bqr_524_4, ↓bqr_528_0, ↓bqr_528_1, ↓bqr_531_0, ↓bqr_531_1, ↓bqr_531_3, ↓bqr_592_0, ↓bqr_592_1, ↓bqr_592_2, ↓bqr_592_3, ↓bqr_592_4, ↓bqr_592_5, ↓bqr_592_6, ↓bqr_592_7, ↓bqr_592_11, ↓bqr_592_12, ↓bqr_592_13, ↓bqr_592_17, ↓bqr_592_18, ↓bqr_592_19, ↓bqr_592_23, ↓bqr_592_26, ↓bqr_592_27, ↓bqr_592_28, ↓bqg_0_2, ↓bqg_1_4, ↓bqg_1_6, ↓bqg_1_7, ↓bqg_1_9, ↓bqg_1_11, ↓bqg_1_14, ↓bqg_518_3, ↓bqg_518_4, ↓bqg_518_5, ↓bqg_518_8, ↓bqg_518_9, ↓bqg_524_1, ↓bqg_524_3, ↓bqg_528_2, ↓bqg_528_3, ↓bqg_531_2, ↓bqg_535_0, ↓bqg_535_1, ↓bqg_535_2, ↓bqg_535_3, ↓bqg_535_4, ↓bqg_592_8, ↓bqg_592_9, ↓bqg_592_10, ↓bqg_592_14, ↓bqg_592_15, ↓bqg_592_16, ↓bqg_592_20, ↓bqg_592_21, ↓bqg_592_22, ↓bqg_592_24, ↓bqg_592_25, ↓bqg_592_29, ↓bqg_592_30, ↓bqg_592_31, ↓bqg_592_32, ↓bqv_0, ↓bqv_1, ↓bqv_259, ↓bqv_518, ↓bqv_524, ↓bqv_528, ↓bqv_531, ↓bqv_535, ↓bqv_592, ↓bqi_2, ↓bqi_3, ↓bqi_4, ↓bqi_10, ↓bqi_519, ↓bqi_520, ↓bqi_521, ↓bqi_522, ↓bqi_523, ↓bqi_525, ↓bqi_526, ↓bqi_527, ↓bqi_529, ↓bqi_530, ↓bqi_532, ↓bqi_533, ↓bqi_534, ↓bqi_593, ↓bqi_594, ↓bqi_595, ↓bqi_596, ↓bqi_597, ↓bqi_598, ↓bqi_599, ↓bqi_600, ↓bqi_601, ↓bqi_602, ↓bqi_603, ↓bqi_604, ↓bqi_605, ↓bqi_606, ↓bqi_608, ↓bqi_609, ↓bqi_610, ↓bqz_607, ↓Option.bind_some, ↓bc_isIn, ↓bm_isIn, ↓bm_isShelf, i01, i10, j01, if_true, if_false, not_true_eq_false, not_false_eq_true, and_true, true_and, and_self, false_and, and_false, ↓reduceIte, Int.reduceEq, Int.reduceLT, Int.reduceLE, Int.reduceNeg, Int.reduceAdd, Int.reduceSub, Int.reduceMul, Int.reduceNe, Int.reduceToNat, Nat.reduceAdd, Nat.reduceMul, Nat.reduceEqDiff, h1, ↓bnd e1, g, e3]
  · by_cases g : v 1063 < 10
    · have ew : v 1063 = (w : Int) := by omega
      simp (disch := omega) only [↓bqr_C, ↓bqr_D, ↓bqr_N2, ↓bqr_N3, ↓bqr_O, ↓bqr_Q, ↓bqr_W, ↓bqr_S1, ↓bqr_S4, ↓bqr_T2, ↓bqr_T3, ↓bqr_F, ↓bqr_H, ↓bqa_C, ↓bqa_N, ↓bqa_U, ↓bqa_Y, ↓bqa_W, ↓bqa_S, ↓bqgkC_1, ↓bqgkC_2, ↓bqgkC_3, ↓bqgkC_4, ↓bqgkC_5, ↓bqgkC_6, ↓bqgkD_1, ↓bqgkN_0, ↓bqgkN_1, ↓bqgkO_1, ↓bqgkQ_1, ↓bqgkW_1, ↓bqgkS_0, ↓bqgkS_2, ↓bqgkS_3, ↓bqgkT_0, ↓bqgkT_1, ↓bqgkF_1, ↓bqgkH_1, ↓bqgkU_0, ↓bqgkU_1, ↓bqgkU_2, ↓bqgkU_3, ↓bqgkU_4, ↓bqgkY_0, ↓bqgkY_1, ↓bqgkY_2, ↓bqikE_, ↓bqikP_, ↓bqikR_, ↓bqikX_, ↓bqikG_, ↓bqikI_, ↓bqikJ_, ↓bqvkC_, ↓bqvkD_, ↓bqvkN_, ↓bqvkO_, ↓bqvkQ_, ↓bqvkU_, ↓bqvkY_, ↓bqvkW_, ↓bqvkS_, ↓bqvkT_, ↓bqvkF_, ↓bqvkH_, ↓bqr_0_0, ↓bqr_0_1, ↓bqr_0_3, ↓bqr_0_4, ↓bqr_0_5, ↓bqr_0_6, ↓bqr_0_7, ↓bqr_0_8, ↓bqr_1_0, ↓bqr_1_1, ↓bqr_1_2, ↓bqr_1_3, ↓bqr_1_5, ↓bqr_1_8, ↓bqr_1_10, ↓bqr_1_12, ↓bqr_1_13, ↓bqr_518_0, ↓bqr_518_1, ↓bqr_518_2, ↓bqr_518_6, ↓bqr_518_7, ↓bqr_524_0, ↓bqr_524_2, ↓bqr_524_4, ↓bqr_528_0, ↓bqr_528_1, ↓bqr_531_0, ↓bqr_531_1, ↓bqr_531_3, ↓bqr_592_0, ↓bqr_592_1, ↓bqr_592_2, ↓bqr_592_3, ↓bqr_592_4, ↓bqr_592_5, ↓bqr_592_6, ↓bqr_592_7, ↓bqr_592_11, ↓bqr_592_12, ↓bqr_592_13, ↓bqr_592_17, ↓bqr_592_18, ↓bqr_592_19, ↓bqr_592_23, ↓bqr_592_26, ↓bqr_592_27, ↓bqr_592_28, ↓bqg_0_2, ↓bqg_1_4, ↓bqg_1_6, ↓bqg_1_7, ↓bqg_1_9, ↓bqg_1_11, ↓bqg_1_14, ↓bqg_518_3, ↓bqg_518_4, ↓bqg_518_5, ↓bqg_518_8, ↓bqg_518_9, ↓bqg_524_1, ↓bqg_524_3, ↓bqg_528_2, ↓bqg_528_3, ↓bqg_531_2, ↓bqg_535_0, ↓bqg_535_1, ↓bqg_535_2, ↓bqg_535_3, ↓bqg_535_4, ↓bqg_592_8, ↓bqg_592_9, ↓bqg_592_10, ↓bqg_592_14, ↓bqg_592_15, ↓bqg_592_16, ↓bqg_592_20, ↓bqg_592_21, ↓bqg_592_22, ↓bqg_592_24, ↓bqg_592_25, ↓bqg_592_29, ↓bqg_592_30, ↓bqg_592_31, ↓bqg_592_32, ↓bqv_0, ↓bqv_1, ↓bqv_259, ↓bqv_518, ↓bqv_524, ↓bqv_528, ↓bqv_531, ↓bqv_535, ↓bqv_592, ↓bqi_2, ↓bqi_3, ↓bqi_4, ↓bqi_10, ↓bqi_519, ↓bqi_520, ↓bqi_521, ↓bqi_522, ↓bqi_523, ↓bqi_525, ↓bqi_526, ↓bqi_527, ↓bqi_529, ↓bqi_530, ↓bqi_532, ↓bqi_533, ↓bqi_534, ↓bqi_593, ↓bqi_594, ↓bqi_595, ↓bqi_596, ↓bqi_597, ↓bqi_598, ↓bqi_599, ↓bqi_600, ↓bqi_601, ↓bqi_602, ↓bqi_603, ↓bqi_604, ↓bqi_605, ↓bqi_606, ↓bqi_608, ↓bqi_609, ↓bqi_610, ↓bqz_607, ↓Option.bind_some, ↓bc_isIn, ↓bm_isIn, ↓bm_isShelf, i01, i10, j01, if_true, if_false, not_true_eq_false, not_false_eq_true, and_true, true_and, and_self, false_and, and_false, ↓reduceIte, Int.reduceEq, Int.reduceLT, Int.reduceLE, Int.reduceNeg, Int.reduceAdd, Int.reduceSub, Int.reduceMul, Int.reduceNe, Int.reduceToNat, Nat.reduceAdd, Nat.reduceMul, Nat.reduceEqDiff, i0s, h1', mw_at hWA, g]
      rw [ew]; exact n1
    · have ew : (10 : Int) = (w : Int) := by omega
      simp (disch := omega) only [↓bqr_C, ↓bqr_D, ↓bqr_N2, ↓bqr_N3, ↓bqr_O, ↓bqr_Q, ↓bqr_W, ↓bqr_S1, ↓bqr_S4, ↓bqr_T2, ↓bqr_T3, ↓bqr_F, ↓bqr_H, ↓bqa_C, ↓bqa_N, ↓bqa_U, ↓bqa_Y, ↓bqa_W, ↓bqa_S, ↓bqgkC_1, ↓bqgkC_2, ↓bqgkC_3, ↓bqgkC_4, ↓bqgkC_5, ↓bqgkC_6, ↓bqgkD_1, ↓bqgkN_0, ↓bqgkN_1, ↓bqgkO_1, ↓bqgkQ_1, ↓bqgkW_1, ↓bqgkS_0, ↓bqgkS_2, ↓bqgkS_3, ↓bqgkT_0, ↓bqgkT_1, ↓bqgkF_1, ↓bqgkH_1, ↓bqgkU_0, ↓bqgkU_1, ↓bqgkU_2, ↓bqgkU_3, ↓bqgkU_4, ↓bqgkY_0, ↓bqgkY_1, ↓bqgkY_2, ↓bqikE_, ↓bqikP_, ↓bqikR_, ↓bqikX_, ↓bqikG_, ↓bqikI_, ↓bqikJ_, ↓bqvkC_, ↓bqvkD_, ↓bqvkN_, ↓bqvkO_, ↓bqvkQ_, ↓bqvkU_, ↓bqvkY_, ↓bqvkW_, ↓bqvkS_, ↓bqvkT_, ↓bqvkF_, ↓bqvkH_, ↓bqr_0_0, ↓bqr_0_1, ↓bqr_0_3, ↓bqr_0_4, ↓bqr_0_5, ↓bqr_0_6, ↓bqr_0_7, ↓bqr_0_8, ↓bqr_1_0, ↓bqr_1_1, ↓bqr_1_2, ↓bqr_1_3, ↓bqr_1_5, ↓bqr_1_8, ↓bqr_1_10, ↓bqr_1_12, ↓bqr_1_13, ↓bqr_518_0, ↓bqr_518_1, ↓bqr_518_2, ↓bqr_518_6, ↓bqr_518_7, ↓bqr_524_0, ↓bqr_524_2, ↓bqr_524_4, ↓bqr_528_0, ↓bqr_528_1, ↓bqr_531_0, ↓bqr_531_1, ↓bqr_531_3, ↓bqr_592_0, ↓bqr_592_1, ↓bqr_592_2, ↓bqr_592_3, ↓bqr_592_4, ↓bqr_592_5, ↓bqr_592_6, ↓bqr_592_7, ↓bqr_592_11, ↓bqr_592_12, ↓bqr_592_13, ↓bqr_592_17, ↓bqr_592_18, ↓bqr_592_19, ↓bqr_592_23, ↓bqr_592_26, ↓bqr_592_27, ↓bqr_592_28, ↓bqg_0_2, ↓bqg_1_4, ↓bqg_1_6, ↓bqg_1_7, ↓bqg_1_9, ↓bqg_1_11, ↓bqg_1_14, ↓bqg_518_3, ↓bqg_518_4, ↓bqg_518_5, ↓bqg_518_8, ↓bqg_518_9, ↓bqg_524_1, ↓bqg_524_3, ↓bqg_528_2, ↓bqg_528_3, ↓bqg_531_2, ↓bqg_535_0, ↓bqg_535_1, ↓bqg_535_2, ↓bqg_535_3, ↓bqg_535_4, ↓bqg_592_8, ↓bqg_592_9, ↓bqg_592_10, ↓bqg_592_14, ↓bqg_592_15, ↓bqg_592_16, ↓bqg_592_20, ↓bqg_592_21, ↓bqg_592_22, ↓bqg_592_24, ↓bqg_592_25, ↓bqg_592_29, ↓bqg_592_30, ↓bqg_592_31, ↓bqg_592_32, ↓bqv_0, ↓bqv_1, ↓bqv_259, ↓bqv_518, ↓bqv_524, ↓bqv_528, ↓bqv_531, ↓bqv_535, ↓bqv_592, ↓bqi_2, ↓bqi_3, ↓bqi_4, ↓bqi_10, ↓bqi_519, ↓bqi_520, ↓bqi_521, ↓bqi_522, ↓bqi_523, ↓bqi_525, ↓bqi_526, ↓bqi_527, ↓bqi_529, ↓bqi_530, ↓bqi_532, ↓bqi_533, ↓bqi_534, ↓bqi_593, ↓bqi_594, ↓bqi_595, ↓bqi_596, ↓bqi_597, ↓bqi_598, ↓bqi_599, ↓bqi_600, ↓bqi_601, ↓bqi_602, ↓bqi_603, ↓bqi_604, ↓bqi_605, ↓bqi_606, ↓bqi_608, ↓bqi_609, ↓bqi_610, ↓bqz_607, ↓Option.bind_some, ↓bc_isIn, ↓bm_isIn, ↓bm_isShelf, i01, i10, j01, if_true, if_false, not_true_eq_false, not_false_eq_true, and_true, true_and, and_self, false_and, and_false, ↓reduceIte, Int.reduceEq, Int.reduceLT, Int.reduceLE, Int.reduceNeg, Int.reduceAdd, Int.reduceSub, Int.reduceMul, Int.reduceNe, Int.reduceToNat, Nat.reduceAdd, Nat.reduceMul, Nat.reduceEqDiff, i0s, h1', mw_at hWA, g]
      rw [ew]; exact n1
end
