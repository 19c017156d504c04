/-! image, restore -/
/-- a loop that copies things, w rows each, from b0 on to a0 on -/
theorem lp_cp {β : Type} {F : Nat → Mem_m → Int → Option β} {K : Mem_m → Option β} {N : Int} {a0 b0 w : Nat} {L : Nat → Nat → Prop} {M : Mem_m}
    (hN : 0 ≤ N ∧ N < 1000) (hdis : b0 + w * N.toNat ≤ a0 ∨ a0 + w * N.toNat ≤ b0) (hL : ∀ j k, L j k → j < w)
    (hs : ∀ n x A, 0 ≤ x → x < N → (∀ a, ¬ (a0 ≤ a ∧ a < a0 + w * N.toNat) → A a = M a) → ∃ A', F (n + 1) A x = F n A' (x + 1) ∧ (∀ a, ¬ (a0 + w * x.toNat ≤ a ∧ a < a0 + w * x.toNat + w) → A' a = A a) ∧ ∀ j k, L j k → A' (a0 + w * x.toNat + j) k = A (b0 + w * x.toNat + j) k)
    (he : ∀ n A, (∀ a, ¬ (a0 ≤ a ∧ a < a0 + w * N.toNat) → A a = M a) → F (n + 1) A N = K A) : ∃ A, F FU_ M 0 = K A ∧ (∀ a, ¬ (a0 ≤ a ∧ a < a0 + w * N.toNat) → A a = M a) ∧ ∀ x j k, 0 ≤ x → x < N → L j k → A (a0 + w * x.toNat + j) k = M (b0 + w * x.toNat + j) k := by
  have hm : ∀ y : Int, 0 ≤ y → y < N → w * y.toNat + w ≤ w * N.toNat := fun y q1 q2 => by
    have : w * (y.toNat + 1) ≤ w * N.toNat := Nat.mul_le_mul_left w (by omega)
    rw [Nat.mul_add, Nat.mul_one] at this; exact this
  refine lp_run (A := Mem_m) (fun n x M => F n M x) N (fun x A => 0 ≤ x ∧ x ≤ N ∧ (∀ a, ¬ (a0 ≤ a ∧ a < a0 + w * N.toNat) → A a = M a) ∧ ∀ y j k, 0 ≤ y → y < x → L j k → A (a0 + w * y.toNat + j) k = M (b0 + w * y.toNat + j) k) (fun o => ∃ A, o = K A ∧ (∀ a, ¬ (a0 ≤ a ∧ a < a0 + w * N.toNat) → A a = M a) ∧ ∀ x j k, 0 ≤ x → x < N → L j k → A (a0 + w * x.toNat + j) k = M (b0 + w * x.toNat + j) k) ?_ ?_ FU_ 0 M (by unfold FU_; omega) ⟨by omega, by omega, fun _ _ => rfl, fun y j k q1 q2 => absurd q2 (by omega)⟩
  · intro n x A hx ⟨q1, q2, q3, q4⟩
    obtain ⟨A', e1, e2, e3⟩ := hs n x A q1 hx q3
    have hmx := hm x q1 hx
    refine Or.inl ⟨A', e1, by omega, by omega, fun a ha => ?_, fun y j k y1 y2 hl => ?_⟩
    · rw [e2 a (by omega), q3 a ha]
    · have hj := hL j k hl
      by_cases hy : y = x
      · rw [hy, e3 j k hl, q3 _ (by omega)]
      · have : w * (y.toNat + 1) ≤ w * x.toNat := Nat.mul_le_mul_left w (by omega)
        rw [Nat.mul_add, Nat.mul_one] at this
        rw [e2 _ (by omega)]; exact q4 y j k y1 (by omega) hl
  · intro n x A hx ⟨q1, q2, q3, q4⟩
    have ex : x = N := by omega
    subst ex
    exact ⟨A, he n A q3, q3, q4⟩
section
variable {M : Mem_m} {a b : Nat}
theorem t10_ (ha : a + 1 < 612) (hb : b + 1 < 612) (ka : kd0_ a = (10, 0)) (kb : kd0_ b = (10, 0)) (ka1 : kd0_ (a + 1) = (20, 8)) (kb1 : kd0_ (b + 1) = (20, 8)) : f_X10_take SH0_ M a b = some (cpM_ (st_m M a 1 (M b 1)) (b + 1) 0 (a + 1) 0 8) :=
  c_take10 (gI_ok (by omega) (by rw [kb]) rfl) (fun z => pI_ok (by omega) (by rw [ka]) rfl) (gR_ok (by omega) (by rw [kb]) rfl) (gR_ok (by omega) (by rw [ka]) rfl) hb ha kb1 ka1
def L10 (j k : Nat) : Prop := (j = 0 ∧ k = 1) ∨ (j = 1 ∧ k < 8)
theorem cp10 (hd : a + 1 < b ∨ b + 1 < a) {N : Mem_m} (hN : N = cpM_ (st_m M a 1 (M b 1)) (b + 1) 0 (a + 1) 0 8) : (∀ c, ¬ (a ≤ c ∧ c < a + 2) → N c = M c) ∧ ∀ j k, L10 j k → N (a + j) k = M (b + j) k := by
  subst hN
  refine ⟨fun c hc => by rw [cp_o (by omega), st_o2 (by omega)], fun j k h => ?_⟩
  rcases h with ⟨rfl, rfl⟩ | ⟨rfl, hk⟩
  · rw [cp_o (by omega)]; exact st_e
  · rw [cp_at, if_pos ⟨rfl, by omega, by omega⟩, st_o2 (by omega), Nat.zero_add, Nat.sub_zero]
def L1_c (j k : Nat) : Prop := (j = 0 ∧ 1 ≤ k ∧ k ≤ 6) ∨ (j = 1 ∧ k = 1) ∨ (j = 2 ∧ k < 8)
theorem t1_ (ha : a + 2 < 612) (hb : b + 2 < 612) (ka : kd0_ a = (1, 0)) (kb : kd0_ b = (1, 0)) (ka1 : kd0_ (a + 1) = (10, 0)) (kb1 : kd0_ (b + 1) = (10, 0)) (ka2 : kd0_ (a + 2) = (20, 8)) (kb2 : kd0_ (b + 2) = (20, 8)) (hd : a + 2 < b ∨ b + 2 < a) (h5 : M b 5 = 0 ∨ M b 5 = 1) : ∃ N, f_X1_take SH0_ M a b = some N ∧ (∀ c, ¬ (a ≤ c ∧ c < a + 3) → N c = M c) ∧ ∀ j k, L1_c j k → N (a + j) k = M (b + j) k := by
  have e1 : gR_ SH0_ a 1 0 = some (a + 1) := gR_ok (by omega) (by rw [ka]) rfl
  have e2 : gR_ SH0_ b 1 0 = some (b + 1) := gR_ok (by omega) (by rw [kb]) rfl
  have ev : ∀ {β : Type} (o : Option β), vc_ SH0_ (a + 1) 10 o = o := fun o => vc_ok (by omega) (by rw [ka1])
  have et := t10_ (M := M) (a := a + 1) (b := b + 1) ha hb ka1 kb1 ka2 kb2
  generalize hA : cpM_ (st_m M (a + 1) 1 (M (b + 1) 1)) (b + 1 + 1) 0 (a + 1 + 1) 0 8 = A at et
  obtain ⟨p1, p2⟩ := cp10 (M := M) (a := a + 1) (b := b + 1) (by omega) hA.symm
  have Ab : A b = M b := p1 b (by omega)
  have g : ∀ (X : Mem_m) k, rfK_ 1 b k = 0 → gI_ SH0_ X b 1 k = some (X b k) := fun X k hk => gI_ok (by omega) (by rw [kb]) hk
  have p : ∀ (X : Mem_m) k z, rfK_ 1 a k = 0 → pI_ SH0_ X a 1 k z = some (st_m X a k z) := fun X k z hk => pI_ok (by omega) (by rw [ka]) hk
  have pz : ∀ (X : Mem_m) z, (z = 0 ∨ z = 1) → pZ_ SH0_ X a 1 5 z = some (st_m X a 5 z) := fun X z hz => pZ_ok (by omega) (by rw [ka]) rfl hz
  have nab : b ≠ a := by omega
  refine ⟨st_m (st_m (st_m (st_m (st_m (st_m A a 1 (M b 1)) a 2 (M b 2)) a 3 (M b 3)) a 4 (M b 4)) a 5 (M b 5)) a 6 (M b 6), ?_, fun c hc => ?_, fun j k h => ?_⟩
  · unfold f_X1_take
    rw [e1, Option.bind_some, e2, Option.bind_some, ev, et, Option.bind_some]
    rw [g A 1 rfl, Option.bind_some, Ab, p _ 1 _ rfl, Option.bind_some]
    rw [g _ 2 rfl, Option.bind_some, st_o2 nab, Ab, p _ 2 _ rfl, Option.bind_some]
    rw [g _ 3 rfl, Option.bind_some, st_o2 nab, st_o2 nab, Ab, p _ 3 _ rfl, Option.bind_some]
    rw [g _ 4 rfl, Option.bind_some, st_o2 nab, st_o2 nab, st_o2 nab, Ab, p _ 4 _ rfl, Option.bind_some]
    rw [g _ 5 rfl, Option.bind_some, st_o2 nab, st_o2 nab, st_o2 nab, st_o2 nab, Ab, pz _ _ h5, Option.bind_some]
    rw [g _ 6 rfl, Option.bind_some, st_o2 nab, st_o2 nab, st_o2 nab, st_o2 nab, st_o2 nab, Ab, p _ 6 _ rfl, Option.bind_some]
  · rw [st_o2 (by omega), st_o2 (by omega), st_o2 (by omega), st_o2 (by omega), st_o2 (by omega), st_o2 (by omega)]
    exact p1 c (by omega)
  · rcases h with ⟨rfl, k1, k6⟩ | ⟨rfl, rfl⟩ | ⟨rfl, hk⟩
    · show st_m _ a 6 _ a k = M b k
      have : k = 1 ∨ k = 2 ∨ k = 3 ∨ k = 4 ∨ k = 5 ∨ k = 6 := by omega
      rcases this with rfl | rfl | rfl | rfl | rfl | rfl <;> simp [st_at]
    · rw [st_o2 (by omega), st_o2 (by omega), st_o2 (by omega), st_o2 (by omega), st_o2 (by omega), st_o2 (by omega)]
      exact p2 0 1 (Or.inl ⟨rfl, rfl⟩)
    · rw [st_o2 (by omega), st_o2 (by omega), st_o2 (by omega), st_o2 (by omega), st_o2 (by omega), st_o2 (by omega)]
      exact p2 1 k (Or.inr ⟨rfl, hk⟩)
def L5_ (j k : Nat) : Prop := (j = 0 ∧ k ≤ 1) ∨ (j = 1 ∧ k = 1) ∨ (j = 2 ∧ k < 8) ∨ (j = 3 ∧ k = 1) ∨ (j = 4 ∧ k < 8)
theorem t5_ (ha : a + 4 < 612) (hb : b + 4 < 612) (ka : kd0_ a = (5, 0)) (kb : kd0_ b = (5, 0)) (ka1 : kd0_ (a + 1) = (10, 0)) (kb1 : kd0_ (b + 1) = (10, 0)) (ka2 : kd0_ (a + 2) = (20, 8)) (kb2 : kd0_ (b + 2) = (20, 8)) (ka3 : kd0_ (a + 3) = (10, 0)) (kb3 : kd0_ (b + 3) = (10, 0)) (ka4 : kd0_ (a + 4) = (20, 8)) (kb4 : kd0_ (b + 4) = (20, 8)) (hd : a + 4 < b ∨ b + 4 < a) : ∃ N, f_X5_take SH0_ M a b = some N ∧ (∀ c, ¬ (a ≤ c ∧ c < a + 5) → N c = M c) ∧ ∀ j k, L5_ j k → N (a + j) k = M (b + j) k := by
  have e1 : gR_ SH0_ a 5 2 = some (a + 1) := gR_ok (by omega) (by rw [ka]) rfl
  have e2 : gR_ SH0_ b 5 2 = some (b + 1) := gR_ok (by omega) (by rw [kb]) rfl
  have e3 : gR_ SH0_ a 5 3 = some (a + 3) := gR_ok (by omega) (by rw [ka]) rfl
  have e4 : gR_ SH0_ b 5 3 = some (b + 3) := gR_ok (by omega) (by rw [kb]) rfl
  have ev : ∀ {β : Type} (o : Option β), vc_ SH0_ (a + 1) 10 o = o := fun o => vc_ok (by omega) (by rw [ka1])
  have ev3 : ∀ {β : Type} (o : Option β), vc_ SH0_ (a + 3) 10 o = o := fun o => vc_ok (by omega) (by rw [ka3])
  have nab : b ≠ a := by omega
  have g : ∀ (X : Mem_m) k, rfK_ 5 b k = 0 → gI_ SH0_ X b 5 k = some (X b k) := fun X k hk => gI_ok (by omega) (by rw [kb]) hk
  have p : ∀ (X : Mem_m) k z, rfK_ 5 a k = 0 → pI_ SH0_ X a 5 k z = some (st_m X a k z) := fun X k z hk => pI_ok (by omega) (by rw [ka]) hk
  generalize hX : st_m (st_m M a 0 (M b 0)) a 1 (M b 1) = X
  have oX : ∀ c, c ≠ a → X c = M c := fun c hc => by rw [← hX, st_o2 hc, st_o2 hc]
  have et := t10_ (M := X) (a := a + 1) (b := b + 1) (by omega) (by omega) ka1 kb1 ka2 kb2
  generalize hA : cpM_ (st_m X (a + 1) 1 (X (b + 1) 1)) (b + 1 + 1) 0 (a + 1 + 1) 0 8 = A at et
  obtain ⟨p1, p2⟩ := cp10 (M := X) (a := a + 1) (b := b + 1) (by omega) hA.symm
  have et2 := t10_ (M := A) (a := a + 3) (b := b + 3) ha hb ka3 kb3 ka4 kb4
  generalize hB : cpM_ (st_m A (a + 3) 1 (A (b + 3) 1)) (b + 3 + 1) 0 (a + 3 + 1) 0 8 = B at et2
  obtain ⟨r1, r2⟩ := cp10 (M := A) (a := a + 3) (b := b + 3) (by omega) hB.symm
  refine ⟨B, ?_, fun c hc => by rw [r1 c (by omega), p1 c (by omega), oX c (by omega)], fun j k h => ?_⟩
  · unfold f_X5_take
    rw [g M 0 rfl, Option.bind_some, p _ 0 _ rfl, Option.bind_some, g _ 1 rfl, Option.bind_some, st_o2 nab, p _ 1 _ rfl, Option.bind_some, hX, e1, Option.bind_some, e2, Option.bind_some, ev, et, Option.bind_some, e3, Option.bind_some, e4, Option.bind_some, ev3, et2, Option.bind_some]
  · rcases h with ⟨rfl, k1⟩ | ⟨rfl, rfl⟩ | ⟨rfl, hk⟩ | ⟨rfl, rfl⟩ | ⟨rfl, hk⟩
    · show B a k = M b k
      rw [r1 a (by omega), p1 a (by omega), ← hX]
      have : k = 0 ∨ k = 1 := by omega
      rcases this with rfl | rfl <;> simp [st_at]
    · rw [r1 _ (by omega)]
      rw [← oX (b + 1) (by omega)]
      exact p2 0 1 (Or.inl ⟨rfl, rfl⟩)
    · rw [r1 _ (by omega)]
      rw [← oX (b + 2) (by omega)]
      exact p2 1 k (Or.inr ⟨rfl, hk⟩)
    · have := r2 0 1 (Or.inl ⟨rfl, rfl⟩)
      rw [← oX (b + 3) (by omega), ← p1 (b + 3) (by omega)]
      exact this
    · have := r2 1 k (Or.inr ⟨rfl, hk⟩)
      rw [← oX (b + 4) (by omega), ← p1 (b + 4) (by omega)]
      exact this
theorem t7_ (ha : a < 612) (hb : b < 612) (ka : kd0_ a = (7, 0)) (kb : kd0_ b = (7, 0)) (nab : b ≠ a) : ∃ N, f_X7_take SH0_ M a b = some N ∧ (∀ c, ¬ (a ≤ c ∧ c < a + 1) → N c = M c) ∧ ∀ j k, (j = 0 ∧ k ≤ 3) → N (a + j) k = M (b + j) k := by
  have g : ∀ (X : Mem_m) k, rfK_ 7 b k = 0 → gI_ SH0_ X b 7 k = some (X b k) := fun X k hk => gI_ok (by omega) (by rw [kb]) hk
  have p : ∀ (X : Mem_m) k z, rfK_ 7 a k = 0 → pI_ SH0_ X a 7 k z = some (st_m X a k z) := fun X k z hk => pI_ok (by omega) (by rw [ka]) hk
  refine ⟨st_m (st_m (st_m (st_m M a 0 (M b 0)) a 1 (M b 1)) a 2 (M b 2)) a 3 (M b 3), ?_, fun c hc => by rw [st_o2 (by omega), st_o2 (by omega), st_o2 (by omega), st_o2 (by omega)], fun j k h => ?_⟩
  · unfold f_X7_take
    rw [g M 0 rfl, Option.bind_some, p _ 0 _ rfl, Option.bind_some, g _ 1 rfl, Option.bind_some, st_o2 nab, p _ 1 _ rfl, Option.bind_some, g _ 2 rfl, Option.bind_some, st_o2 nab, st_o2 nab, p _ 2 _ rfl, Option.bind_some, g _ 3 rfl, Option.bind_some, st_o2 nab, st_o2 nab, st_o2 nab, p _ 3 _ rfl, Option.bind_some]
  · obtain ⟨rfl, hk⟩ := h
    show st_m _ a 3 _ a k = M b k
    have : k = 0 ∨ k = 1 ∨ k = 2 ∨ k = 3 := by omega
    rcases this with rfl | rfl | rfl | rfl <;> simp [st_at]
theorem t8_ (ha : a < 612) (hb : b < 612) (ka : kd0_ a = (8, 0)) (kb : kd0_ b = (8, 0)) (nab : b ≠ a) : ∃ N, f_X8_take SH0_ M a b = some N ∧ (∀ c, ¬ (a ≤ c ∧ c < a + 1) → N c = M c) ∧ ∀ j k, (j = 0 ∧ k ≤ 2) → N (a + j) k = M (b + j) k := by
  have g : ∀ (X : Mem_m) k, rfK_ 8 b k = 0 → gI_ SH0_ X b 8 k = some (X b k) := fun X k hk => gI_ok (by omega) (by rw [kb]) hk
  have p : ∀ (X : Mem_m) k z, rfK_ 8 a k = 0 → pI_ SH0_ X a 8 k z = some (st_m X a k z) := fun X k z hk => pI_ok (by omega) (by rw [ka]) hk
  refine ⟨st_m (st_m (st_m M a 0 (M b 0)) a 1 (M b 1)) a 2 (M b 2), ?_, fun c hc => by rw [st_o2 (by omega), st_o2 (by omega), st_o2 (by omega)], fun j k h => ?_⟩
  · unfold f_X8_take
    rw [g M 0 rfl, Option.bind_some, p _ 0 _ rfl, Option.bind_some, g _ 1 rfl, Option.bind_some, st_o2 nab, p _ 1 _ rfl, Option.bind_some, g _ 2 rfl, Option.bind_some, st_o2 nab, st_o2 nab, p _ 2 _ rfl, Option.bind_some]
  · obtain ⟨rfl, hk⟩ := h
    show st_m _ a 2 _ a k = M b k
    have : k = 0 ∨ k = 1 ∨ k = 2 := by omega
    rcases this with rfl | rfl | rfl <;> simp [st_at]
end
