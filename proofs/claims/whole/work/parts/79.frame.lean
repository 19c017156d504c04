/-! R_ looks at its rows only -/
theorem Rcard_same {b : Nat} {M N : Mem_m} {v : Nat → Int} {x : Int} (h0 : N (cA_ b x) = M (cA_ b x)) (h1 : N (cA_ b x + 1) = M (cA_ b x + 1)) (h2 : N (cA_ b x + 2) = M (cA_ b x + 2)) (h : Rcard b M v x) : Rcard b N v x := by
  unfold Rcard at h ⊢; rw [h0, h1, h2]; exact h
theorem Rnote_same {b : Nat} {M N : Mem_m} {v : Nat → Int} {x : Int} (hb : N b 7 = M b 7) (h0 : N (nA_ b x) = M (nA_ b x)) (h1 : N (nA_ b x + 1) = M (nA_ b x + 1)) (h2 : N (nA_ b x + 2) = M (nA_ b x + 2)) (h3 : N (nA_ b x + 3) = M (nA_ b x + 3)) (h4 : N (nA_ b x + 4) = M (nA_ b x + 4)) (h : Rnote b M v x) : Rnote b N v x := by
  unfold Rnote at h ⊢; rw [hb, h0, h1, h2, h3, h4]; exact h
theorem Rrule_same {b : Nat} {M N : Mem_m} {v : Nat → Int} {x : Int} (h0 : N (rA_ b x) = M (rA_ b x)) (h : Rrule b M v x) : Rrule b N v x := by
  unfold Rrule at h ⊢; rw [h0]; exact h
theorem Rsaying_same {b : Nat} {M N : Mem_m} {v : Nat → Int} {x : Int} (h0 : N (yA_ b x) = M (yA_ b x)) (h : Rsaying b M v x) : Rsaying b N v x := by
  unfold Rsaying at h ⊢; rw [h0]; exact h
theorem Rword_same {b : Nat} {M N : Mem_m} {v : Nat → Int} {x : Int} (hb : N b 4 = M b 4) (h9 : N (b + 9) = M (b + 9)) (h0 : N (wA_ b x) = M (wA_ b x)) (h1 : N (wA_ b x + 1) = M (wA_ b x + 1)) (h : Rword b M v x) : Rword b N v x := by
  unfold Rword at h ⊢; rw [hb, h9, h0, h1]; exact h
theorem RelB_same {b : Nat} {M N : Mem_m} {v w : Nat → Int} (hv : w = v) (hN : ∀ a, b ≤ a → a ≤ b + 257 → N a = M a) (h : RelB b M v) : RelB b N w := by
  subst hv
  obtain ⟨⟨c1, c2⟩, ⟨n1, n2, n3⟩, ⟨r1, r2⟩, ⟨y1, y2⟩, ⟨w1, w2⟩, q1, q2, q3⟩ := h
  have hb : N b = M b := hN b (by omega) (by omega)
  unfold RelB
  rw [hb, hN (b + 1) (by omega) (by omega), hN (b + 2) (by omega) (by omega), hN (b + 3) (by omega) (by omega)]
  refine ⟨⟨c1, fun x h1 h2 => ?_⟩, ⟨n1, n2, fun x h1 h2 => ?_⟩, ⟨r1, fun x h1 h2 => ?_⟩, ⟨y1, fun x h1 h2 => ?_⟩, ⟨w1, fun x h1 h2 => ?_⟩, q1, q2, q3⟩
  · exact Rcard_same (hN _ (by show b ≤ b + 10 + 3 * x.toNat; omega) (by show b + 10 + 3 * x.toNat ≤ _; omega)) (hN _ (by show b ≤ b + 10 + 3 * x.toNat + 1; omega) (by show b + 10 + 3 * x.toNat + 1 ≤ _; omega)) (hN _ (by show b ≤ b + 10 + 3 * x.toNat + 2; omega) (by show b + 10 + 3 * x.toNat + 2 ≤ _; omega)) (c2 x h1 h2)
  · exact Rnote_same (by rw [hb]) (hN _ (by show b ≤ b + 130 + 5 * x.toNat; omega) (by show b + 130 + 5 * x.toNat ≤ _; omega)) (hN _ (by show b ≤ b + 130 + 5 * x.toNat + 1; omega) (by show b + 130 + 5 * x.toNat + 1 ≤ _; omega)) (hN _ (by show b ≤ b + 130 + 5 * x.toNat + 2; omega) (by show b + 130 + 5 * x.toNat + 2 ≤ _; omega)) (hN _ (by show b ≤ b + 130 + 5 * x.toNat + 3; omega) (by show b + 130 + 5 * x.toNat + 3 ≤ _; omega)) (hN _ (by show b ≤ b + 130 + 5 * x.toNat + 4; omega) (by show b + 130 + 5 * x.toNat + 4 ≤ _; omega)) (n3 x h1 h2)
  · exact Rrule_same (hN _ (by show b ≤ b + 210 + x.toNat; omega) (by show b + 210 + x.toNat ≤ _; omega)) (r2 x h1 h2)
  · exact Rsaying_same (hN _ (by show b ≤ b + 218 + x.toNat; omega) (by show b + 218 + x.toNat ≤ _; omega)) (y2 x h1 h2)
  · exact Rword_same (by rw [hb]) (hN _ (by omega) (by omega)) (hN _ (by show b ≤ b + 238 + 2 * x.toNat; omega) (by show b + 238 + 2 * x.toNat ≤ _; omega)) (hN _ (by show b ≤ b + 238 + 2 * x.toNat + 1; omega) (by show b + 238 + 2 * x.toNat + 1 ≤ _; omega)) (w2 x h1 h2)
theorem Rshelf_same {M N : Mem_m} {d : Int} (h1 : 0 ≤ d) (h2 : d < 8) (hN : ∀ a, 536 ≤ a → a ≤ 600 → a ≠ 592 → N a = M a) (h : Rshelf M d) : Rshelf N d := by
  have e : ∀ k, k ≤ 6 → N (sA_ d + k) = M (sA_ d + k) := fun k hk => hN _ (by show 536 ≤ 536 + 7 * d.toNat + k; omega) (by show 536 + 7 * d.toNat + k ≤ 600; omega) (by show 536 + 7 * d.toNat + k ≠ 592; omega)
  have e0 : N (sA_ d) = M (sA_ d) := e 0 (by omega)
  unfold Rshelf at h ⊢
  rw [e0, e 1 (by omega), e 2 (by omega), e 3 (by omega), e 6 (by omega), hN 595 (by decide) (by decide) (by decide), hN 596 (by decide) (by decide) (by decide), hN 597 (by decide) (by decide) (by decide), hN 598 (by decide) (by decide) (by decide), hN 599 (by decide) (by decide) (by decide), hN 600 (by decide) (by decide) (by decide)]
  exact h
/-- the rows that R_ looks at are the same -/
def sm_ (M N : Mem_m) : Prop := (∀ a, 1 ≤ a → a ≤ 600 → (a ≤ 516 ∨ a = 529 ∨ 536 ≤ a) → a ≠ 592 → N a = M a) ∧ N 0 2 = M 0 2 ∧ N 592 8 = M 592 8
theorem R_same {M N : Mem_m} (h : sm_ M N) (hR : R_ M) : R_ N := by
  obtain ⟨ha, h0, h8⟩ := h
  obtain ⟨r1, ⟨r2, r3⟩, r4, r5, r6⟩ := hR
  unfold R_
  rw [h0, h8, ha 529 (by decide) (by decide) (by omega) (by decide)]
  refine ⟨RelB_same (ha 593 (by decide) (by decide) (by omega) (by decide)) (fun a q1 q2 => ha a (by omega) (by omega) (by omega) (by omega)) r1, ⟨r2, r3⟩, fun h => RelB_same (ha 594 (by decide) (by decide) (by omega) (by decide)) (fun a q1 q2 => ha a (by omega) (by omega) (by omega) (by omega)) (r4 h), fun d q1 q2 => Rshelf_same q1 q2 (fun a p1 p2 p3 => ha a (by omega) p2 (by omega) p3) (r5 d q1 q2), r6⟩
theorem sm_refl (M : Mem_m) : sm_ M M := ⟨fun _ _ _ _ _ => rfl, rfl, rfl⟩
theorem sm_trans {M N P : Mem_m} (h : sm_ M N) (k : sm_ N P) : sm_ M P := ⟨fun a q1 q2 q3 q4 => (k.1 a q1 q2 q3 q4).trans (h.1 a q1 q2 q3 q4), k.2.1.trans h.2.1, k.2.2.trans h.2.2⟩
/-- a write into a row that R_ does not look at -/
theorem sm_st {M N : Mem_m} {a k : Nat} {v : Int} (h : sm_ M N) (ha : ¬ (1 ≤ a ∧ a ≤ 600 ∧ (a ≤ 516 ∨ a = 529 ∨ 536 ≤ a) ∧ a ≠ 592) ∧ (a ≠ 0 ∨ k ≠ 2) ∧ (a ≠ 592 ∨ k ≠ 8)) : sm_ M (st_m N a k v) := by
  obtain ⟨n, n1, n2⟩ := ha
  have hs : ∀ b j, (b ≠ a ∨ j ≠ k) → st_m N a k v b j = N b j := by
    intro b j hb
    unfold st_m
    by_cases e : b = a
    · rw [if_pos e]
      subst e
      unfold up_r
      rw [if_neg (by omega)]
    · rw [if_neg e]
  refine ⟨fun b q1 q2 q3 q4 => ?_, ?_, ?_⟩
  · funext j
    rw [hs b j (Or.inl (by intro e; subst e; exact n ⟨q1, q2, q3, q4⟩))]
    rw [h.1 b q1 q2 q3 q4]
  · rw [hs 0 2 (by omega)]; exact h.2.1
  · rw [hs 592 8 (by omega)]; exact h.2.2
