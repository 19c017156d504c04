/-! how R_ is carried over a change of some rows -/
theorem st_o2 {M : Mem_m} {a b k : Nat} {v : Int} (h : b ≠ a) : st_m M a k v b = M b := if_neg h
theorem st_e {M : Mem_m} {a k : Nat} {v : Int} : st_m M a k v a k = v := by unfold st_m up_r; rw [if_pos rfl, if_pos rfl]
theorem st_k {M : Mem_m} {a k j : Nat} {v : Int} (h : j ≠ k) : st_m M a k v a j = M a j := by unfold st_m up_r; rw [if_pos rfl, if_neg h]
theorem st_at {M : Mem_m} {a k b j : Nat} {v : Int} : st_m M a k v b j = if b = a ∧ j = k then v else M b j := by
  unfold st_m up_r
  by_cases h : b = a
  · subst h; rw [if_pos rfl]
    by_cases h2 : j = k
    · rw [if_pos h2, if_pos ⟨rfl, h2⟩]
    · rw [if_neg h2, if_neg (fun q => h2 q.2)]
  · rw [if_neg h, if_neg (fun q => h q.1)]
section
variable {b : Nat} {M N : Mem_m} {v w : Nat → Int} {x : Int}
theorem Rcard_tr (h0 : N (cA_ b x) = M (cA_ b x)) (h1 : N (cA_ b x + 1) = M (cA_ b x + 1)) (h2 : N (cA_ b x + 2) = M (cA_ b x + 2)) (hw : ∀ k, 15 * x.toNat ≤ k → k < 15 * x.toNat + 15 → w k = v k) (h : Rcard b M v x) : Rcard b N w x := by
  unfold Rcard at h ⊢
  rw [h0, h1, h2, hw (15 * x.toNat) (by omega) (by omega), hw (15 * x.toNat + 9) (by omega) (by omega), hw (15 * x.toNat + 10) (by omega) (by omega), hw (15 * x.toNat + 11) (by omega) (by omega), hw (15 * x.toNat + 12) (by omega) (by omega), hw (15 * x.toNat + 13) (by omega) (by omega), hw (15 * x.toNat + 14) (by omega) (by omega)]
  refine ⟨h.1, fun i q1 q2 => ?_, h.2.2⟩
  have h8 := h.1.2.1
  rw [hw (15 * x.toNat + 1 + i.toNat) (by omega) (by omega)]
  exact h.2.1 i q1 q2
theorem Rnote_tr (hb : bt_ (N b 7) x = bt_ (M b 7) x) (h0 : N (nA_ b x) = M (nA_ b x)) (h1 : N (nA_ b x + 1) = M (nA_ b x + 1)) (h2 : N (nA_ b x + 2) = M (nA_ b x + 2)) (h3 : N (nA_ b x + 3) = M (nA_ b x + 3)) (h4 : N (nA_ b x + 4) = M (nA_ b x + 4)) (hw : ∀ k, 600 + 7 * x.toNat ≤ k → k < 600 + 7 * x.toNat + 7 → w k = v k) (h : Rnote b M v x) : Rnote b N w x := by
  unfold Rnote at h ⊢
  rw [hb, h0, h1, h2, h3, h4, hw (600 + 7 * x.toNat) (by omega) (by omega), hw (600 + 7 * x.toNat + 1) (by omega) (by omega), hw (600 + 7 * x.toNat + 6) (by omega) (by omega)]
  refine ⟨h.1, h.2.1, h.2.2.1, fun i q1 q2 => ?_, h.2.2.2.2⟩
  have h8 := h.2.2.1.2.2
  rw [hw (600 + 7 * x.toNat + 2 + i.toNat) (by omega) (by omega)]
  exact h.2.2.2.1 i q1 q2
theorem Rrule_tr (h0 : N (rA_ b x) = M (rA_ b x)) (hw : ∀ k, 712 + 8 * x.toNat ≤ k → k < 712 + 8 * x.toNat + 8 → w k = v k) (h : Rrule b M v x) : Rrule b N w x := by
  unfold Rrule at h ⊢
  rw [h0, hw (712 + 8 * x.toNat) (by omega) (by omega), hw (712 + 8 * x.toNat + 1) (by omega) (by omega), hw (712 + 8 * x.toNat + 2) (by omega) (by omega), hw (712 + 8 * x.toNat + 3) (by omega) (by omega), hw (712 + 8 * x.toNat + 4) (by omega) (by omega), hw (712 + 8 * x.toNat + 5) (by omega) (by omega), hw (712 + 8 * x.toNat + 6) (by omega) (by omega), hw (712 + 8 * x.toNat + 7) (by omega) (by omega)]
  exact h
theorem Rsaying_tr (h0 : N (yA_ b x) = M (yA_ b x)) (hw : ∀ k, 776 + 8 * x.toNat ≤ k → k < 776 + 8 * x.toNat + 8 → w k = v k) (h : Rsaying b M v x) : Rsaying b N w x := by
  unfold Rsaying at h ⊢
  rw [h0, hw (776 + 8 * x.toNat) (by omega) (by omega), hw (776 + 8 * x.toNat + 5) (by omega) (by omega), hw (776 + 8 * x.toNat + 6) (by omega) (by omega), hw (776 + 8 * x.toNat + 7) (by omega) (by omega)]
  exact h
theorem Rword_tr (hb : M b 4 ≤ N b 4) (h9 : N (b + 9) x.toNat = M (b + 9) x.toNat) (h0 : N (wA_ b x) = M (wA_ b x)) (h1 : N (wA_ b x + 1) = M (wA_ b x + 1)) (hw : ∀ k, 936 + 10 * x.toNat ≤ k → k < 936 + 10 * x.toNat + 10 → w k = v k) (h : Rword b M v x) : Rword b N w x := by
  unfold Rword at h ⊢
  rw [h9, h0, h1, hw (936 + 10 * x.toNat) (by omega) (by omega), hw (936 + 10 * x.toNat + 9) (by omega) (by omega)]
  refine ⟨h.1, fun i q1 q2 => ?_, h.2.2.1, h.2.2.2.1, Int.lt_of_lt_of_le h.2.2.2.2 hb⟩
  have h8 := h.1.2.2
  rw [hw (936 + 10 * x.toNat + 1 + i.toNat) (by omega) (by omega)]
  exact h.2.1 i q1 q2
/-! the parts of a book, each alone -/
def Bc_ (b : Nat) (M : Mem_m) (v : Nat → Int) : Prop := (0 ≤ M b 4 ∧ M b 4 ≤ 40 ∧ v 1062 = M b 4) ∧ ∀ x : Int, 0 ≤ x → x < M b 4 → Rcard b M v x
def Bn_ (b : Nat) (M : Mem_m) (v : Nat → Int) : Prop := (0 ≤ M b 6 ∧ M b 6 ≤ 16 ∧ v 1063 = M b 6) ∧ (0 ≤ M b 7 ∧ M b 7 < 2 ^ (M b 6).toNat) ∧ ∀ x : Int, 0 ≤ x → x < M b 6 → Rnote b M v x
def Br_ (b : Nat) (M : Mem_m) (v : Nat → Int) : Prop := (0 ≤ M b 9 ∧ M b 9 ≤ 8 ∧ v 1064 = M b 9) ∧ ∀ x : Int, 0 ≤ x → x < M b 9 → Rrule b M v x
def By_ (b : Nat) (M : Mem_m) (v : Nat → Int) : Prop := (0 ≤ M b 11 ∧ M b 11 ≤ 20 ∧ v 1065 = M b 11) ∧ ∀ x : Int, 0 ≤ x → x < M b 11 → Rsaying b M v x
def Bw_ (b : Nat) (M : Mem_m) (v : Nat → Int) : Prop := (0 ≤ M b 14 ∧ M b 14 ≤ 10 ∧ v 1066 = M b 14) ∧ ∀ x : Int, 0 ≤ x → x < M b 14 → Rword b M v x
def Bk_ (b : Nat) (M : Mem_m) (v : Nat → Int) : Prop := ∀ k : Int, 0 ≤ k → k < 10 → v (1036 + k.toNat) = M (b + 1) k.toNat ∧ 0 ≤ M (b + 1) k.toNat ∧ M (b + 1) k.toNat ≤ 3
def Bv_ (b : Nat) (M : Mem_m) (v : Nat → Int) : Prop := ∀ k : Int, 0 ≤ k → k < 8 → v (1046 + k.toNat) = M (b + 2) k.toNat ∧ 0 ≤ M (b + 2) k.toNat ∧ M (b + 2) k.toNat ≤ 3
def Be_ (b : Nat) (M : Mem_m) (v : Nat → Int) : Prop := ∀ k : Int, 0 ≤ k → k < 8 → v (1054 + k.toNat) = M (b + 3) k.toNat ∧ 0 ≤ M (b + 3) k.toNat ∧ M (b + 3) k.toNat ≤ 99
theorem RelB_mk (h1 : Bc_ b M v) (h2 : Bn_ b M v) (h3 : Br_ b M v) (h4 : By_ b M v) (h5 : Bw_ b M v) (h6 : Bk_ b M v) (h7 : Bv_ b M v) (h8 : Be_ b M v) : RelB b M v := ⟨h1, h2, h3, h4, h5, h6, h7, h8⟩
theorem RelB_un (h : RelB b M v) : Bc_ b M v ∧ Bn_ b M v ∧ Br_ b M v ∧ By_ b M v ∧ Bw_ b M v ∧ Bk_ b M v ∧ Bv_ b M v ∧ Be_ b M v := h
theorem Bc_tr (hN : ∀ a, b + 10 ≤ a → a < b + 130 → N a = M a) (h4 : N b 4 = M b 4) (hw : ∀ k, k < 600 → w k = v k) (hw2 : w 1062 = v 1062) (h : Bc_ b M v) : Bc_ b N w := by
  unfold Bc_ at h ⊢
  rw [h4, hw2]
  refine ⟨h.1, fun x q1 q2 => ?_⟩
  have q3 : M b 4 ≤ 40 := h.1.2.1
  exact Rcard_tr (hN _ (by show b + 10 ≤ b + 10 + 3 * x.toNat; omega) (by show b + 10 + 3 * x.toNat < b + 130; omega)) (hN _ (by show b + 10 ≤ b + 10 + 3 * x.toNat + 1; omega) (by show b + 10 + 3 * x.toNat + 1 < b + 130; omega)) (hN _ (by show b + 10 ≤ b + 10 + 3 * x.toNat + 2; omega) (by show b + 10 + 3 * x.toNat + 2 < b + 130; omega)) (fun k p1 p2 => hw k (by omega)) (h.2 x q1 q2)
theorem Bn_tr (hN : ∀ a, b + 130 ≤ a → a < b + 210 → N a = M a) (h6 : N b 6 = M b 6) (h7 : N b 7 = M b 7) (hw : ∀ k, 600 ≤ k → k < 712 → w k = v k) (hw2 : w 1063 = v 1063) (h : Bn_ b M v) : Bn_ b N w := by
  unfold Bn_ at h ⊢
  rw [h6, h7, hw2]
  refine ⟨h.1, h.2.1, fun x q1 q2 => ?_⟩
  have q3 : M b 6 ≤ 16 := h.1.2.1
  refine Rnote_tr (by rw [h7]) (hN _ ?_ ?_) (hN _ ?_ ?_) (hN _ ?_ ?_) (hN _ ?_ ?_) (hN _ ?_ ?_) (fun k p1 p2 => hw k (by omega) (by omega)) (h.2.2 x q1 q2)
  all_goals first
    | (show b + 130 ≤ b + 130 + 5 * x.toNat; omega)
    | (show b + 130 ≤ b + 130 + 5 * x.toNat + 1; omega)
    | (show b + 130 ≤ b + 130 + 5 * x.toNat + 2; omega)
    | (show b + 130 ≤ b + 130 + 5 * x.toNat + 3; omega)
    | (show b + 130 ≤ b + 130 + 5 * x.toNat + 4; omega)
    | (show b + 130 + 5 * x.toNat < b + 210; omega)
    | (show b + 130 + 5 * x.toNat + 1 < b + 210; omega)
    | (show b + 130 + 5 * x.toNat + 2 < b + 210; omega)
    | (show b + 130 + 5 * x.toNat + 3 < b + 210; omega)
    | (show b + 130 + 5 * x.toNat + 4 < b + 210; omega)
theorem Br_tr (hN : ∀ a, b + 210 ≤ a → a < b + 218 → N a = M a) (h9 : N b 9 = M b 9) (hw : ∀ k, 712 ≤ k → k < 776 → w k = v k) (hw2 : w 1064 = v 1064) (h : Br_ b M v) : Br_ b N w := by
  unfold Br_ at h ⊢
  rw [h9, hw2]
  refine ⟨h.1, fun x q1 q2 => ?_⟩
  have q3 : M b 9 ≤ 8 := h.1.2.1
  exact Rrule_tr (hN _ (by show b + 210 ≤ b + 210 + x.toNat; omega) (by show b + 210 + x.toNat < b + 218; omega)) (fun k p1 p2 => hw k (by omega) (by omega)) (h.2 x q1 q2)
theorem By_tr (hN : ∀ a, b + 218 ≤ a → a < b + 238 → N a = M a) (h11 : N b 11 = M b 11) (hw : ∀ k, 776 ≤ k → k < 936 → w k = v k) (hw2 : w 1065 = v 1065) (h : By_ b M v) : By_ b N w := by
  unfold By_ at h ⊢
  rw [h11, hw2]
  refine ⟨h.1, fun x q1 q2 => ?_⟩
  have q3 : M b 11 ≤ 20 := h.1.2.1
  exact Rsaying_tr (hN _ (by show b + 218 ≤ b + 218 + x.toNat; omega) (by show b + 218 + x.toNat < b + 238; omega)) (fun k p1 p2 => hw k (by omega) (by omega)) (h.2 x q1 q2)
theorem Bw_tr (hN : ∀ a, b + 238 ≤ a → a < b + 258 → N a = M a) (hN9 : N (b + 9) = M (b + 9)) (h4 : M b 4 ≤ N b 4) (h14 : N b 14 = M b 14) (hw : ∀ k, 936 ≤ k → k < 1036 → w k = v k) (hw2 : w 1066 = v 1066) (h : Bw_ b M v) : Bw_ b N w := by
  unfold Bw_ at h ⊢
  rw [h14, hw2]
  refine ⟨h.1, fun x q1 q2 => ?_⟩
  have q3 : M b 14 ≤ 10 := h.1.2.1
  exact Rword_tr h4 (by rw [hN9]) (hN _ (by show b + 238 ≤ b + 238 + 2 * x.toNat; omega) (by show b + 238 + 2 * x.toNat < b + 258; omega)) (hN _ (by show b + 238 ≤ b + 238 + 2 * x.toNat + 1; omega) (by show b + 238 + 2 * x.toNat + 1 < b + 258; omega)) (fun k p1 p2 => hw k (by omega) (by omega)) (h.2 x q1 q2)
theorem Bk_tr (hN : N (b + 1) = M (b + 1)) (hw : ∀ k, 1036 ≤ k → k < 1046 → w k = v k) (h : Bk_ b M v) : Bk_ b N w := by
  intro k q1 q2
  rw [hN, hw _ (by omega) (by omega)]; exact h k q1 q2
theorem Bv_tr (hN : N (b + 2) = M (b + 2)) (hw : ∀ k, 1046 ≤ k → k < 1054 → w k = v k) (h : Bv_ b M v) : Bv_ b N w := by
  intro k q1 q2
  rw [hN, hw _ (by omega) (by omega)]; exact h k q1 q2
theorem Be_tr (hN : N (b + 3) = M (b + 3)) (hw : ∀ k, 1054 ≤ k → k < 1062 → w k = v k) (h : Be_ b M v) : Be_ b N w := by
  intro k q1 q2
  rw [hN, hw _ (by omega) (by omega)]; exact h k q1 q2
theorem Rshelf_tr {d : Int} (hN : ∀ k, k ≤ 6 → N (sA_ d + k) = M (sA_ d + k)) (h5 : N 595 d.toNat = M 595 d.toNat) (h6 : N 596 d.toNat = M 596 d.toNat) (h7 : N 597 d.toNat = M 597 d.toNat) (h8 : ∀ k, 80 * d.toNat ≤ k → k < 80 * d.toNat + 80 → N 598 k = M 598 k) (h9 : N 599 d.toNat = M 599 d.toNat) (h10 : N 600 d.toNat = M 600 d.toNat) (h : Rshelf M d) : Rshelf N d := by
  have e0 : N (sA_ d) = M (sA_ d) := hN 0 (by omega)
  unfold Rshelf at h ⊢
  rw [e0, hN 1 (by omega), hN 2 (by omega), hN 3 (by omega), hN 6 (by omega), h5, h6, h7, h9, h10]
  refine ⟨h.1, fun q => ⟨(h.2.1 q).1, (h.2.1 q).2.1, fun i q1 q2 => ?_⟩, h.2.2⟩
  have q3 := (h.2.1 q).2.1.2.2
  rw [h8 _ (by omega) (by omega)]
  exact (h.2.1 q).2.2 i q1 q2
/-- a change in the book (1) alone -/
theorem R_book (hN : ∀ a, 259 ≤ a → a ≤ 600 → (a ≤ 516 ∨ a = 529 ∨ 536 ≤ a) → a ≠ 592 → a ≠ 593 → N a = M a) (h0 : N 0 2 = M 0 2) (h8 : N 592 8 = M 592 8) (hB : RelB 1 N (N 593)) (hR : R_ M) : R_ N := by
  obtain ⟨r1, ⟨r2, r3⟩, r4, r5, r6⟩ := hR
  unfold R_
  rw [h0, h8, hN 529 (by decide) (by decide) (by omega) (by decide) (by decide)]
  refine ⟨hB, ⟨r2, r3⟩, fun h => RelB_same (hN 594 (by decide) (by decide) (by omega) (by decide) (by decide)) (fun a q1 q2 => hN a (by omega) (by omega) (by omega) (by omega) (by omega)) (r4 h), fun d q1 q2 => ?_, r6⟩
  have e : ∀ a, 595 ≤ a → a ≤ 600 → N a = M a := fun a p1 p2 => hN a (by omega) (by omega) (by omega) (by omega) (by omega)
  refine Rshelf_tr (fun k hk => hN _ ?_ ?_ ?_ ?_ ?_) (by rw [e 595 (by omega) (by omega)]) (by rw [e 596 (by omega) (by omega)]) (by rw [e 597 (by omega) (by omega)]) (fun k _ _ => by rw [e 598 (by omega) (by omega)]) (by rw [e 599 (by omega) (by omega)]) (by rw [e 600 (by omega) (by omega)]) (r5 d q1 q2)
  · show 259 ≤ 536 + 7 * d.toNat + k; omega
  · show 536 + 7 * d.toNat + k ≤ 600; omega
  · show 536 + 7 * d.toNat + k ≤ 516 ∨ 536 + 7 * d.toNat + k = 529 ∨ 536 ≤ 536 + 7 * d.toNat + k; omega
  · show 536 + 7 * d.toNat + k ≠ 592; omega
  · show 536 + 7 * d.toNat + k ≠ 593; omega
/-- a change of the shelves alone -/
theorem R_shelves (hN : ∀ a, 1 ≤ a → a ≤ 594 → (a ≤ 516 ∨ a = 529 ∨ 593 ≤ a) → N a = M a) (h0 : N 0 2 = M 0 2) (h8 : N 592 8 = M 592 8) (hS : ∀ d : Int, 0 ≤ d → d < 8 → Rshelf N d) (hR : R_ M) : R_ N := by
  obtain ⟨r1, ⟨r2, r3⟩, r4, r5, r6⟩ := hR
  unfold R_
  rw [h0, h8, hN 529 (by decide) (by decide) (by omega)]
  exact ⟨RelB_same (hN 593 (by decide) (by decide) (by omega)) (fun a q1 q2 => hN a (by omega) (by omega) (by omega)) r1, ⟨r2, r3⟩, fun h => RelB_same (hN 594 (by decide) (by decide) (by omega)) (fun a q1 q2 => hN a (by omega) (by omega) (by omega)) (r4 h), hS, r6⟩
end
