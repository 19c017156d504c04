/-! a book taken over: image, restore -/
section
variable {b d s : Nat} {x : Int} {M X : Mem_m}
theorem e_noteAt (h : bk_ b) (h1 : 0 ≤ x) (h2 : x < 16) : aR_ SH0_ (b + 5) 23 x = some (nA_ b x) := by
  refine aR_ok (N := 16) (by have := bk_lt h; omega) (bd_1 b (bk_mem h)).2.2.2.2.2.1 h1 h2 ?_
  show (if x.toNat < 16 then b + 5 + 125 + 5 * x.toNat + 2 else 0) = _
  rw [if_pos (by omega)]
theorem e_ruleAt (h : bk_ b) (h1 : 0 ≤ x) (h2 : x < 8) : aR_ SH0_ (b + 6) 24 x = some (rA_ b x) := by
  refine aR_ok (N := 8) (by have := bk_lt h; omega) (bd_1 b (bk_mem h)).2.2.2.2.2.2.1 h1 h2 ?_
  show (if x.toNat < 8 then b + 6 + 204 + x.toNat + 2 else 0) = _
  rw [if_pos (by omega)]
theorem e_sayAt (h : bk_ b) (h1 : 0 ≤ x) (h2 : x < 20) : aR_ SH0_ (b + 7) 25 x = some (yA_ b x) := by
  refine aR_ok (N := 20) (by have := bk_lt h; omega) (bd_1 b (bk_mem h)).2.2.2.2.2.2.2.1 h1 h2 ?_
  show (if x.toNat < 20 then b + 7 + 211 + x.toNat + 2 else 0) = _
  rw [if_pos (by omega)]
theorem e_wordAt (h : bk_ b) (h1 : 0 ≤ x) (h2 : x < 10) : aR_ SH0_ (b + 8) 26 x = some (wA_ b x) := by
  refine aR_ok (N := 10) (by have := bk_lt h; omega) (bd_1 b (bk_mem h)).2.2.2.2.2.2.2.2.1 h1 h2 ?_
  show (if x.toNat < 10 then b + 8 + 230 + 2 * x.toNat + 2 else 0) = _
  rw [if_pos (by omega)]
theorem e_bookv {β : Type} {o : Option β} (h : bk_ b) : vc_ SH0_ b 0 o = o := vc_ok (by have := bk_lt h; omega) (by rw [(bd_1 b (bk_mem h)).1])
theorem e_pbook {k : Nat} {z : Int} (h : bk_ b) (hk : rfK_ 0 b k = 0) : pI_ SH0_ M b 0 k z = some (st_m M b k z) := pI_ok (by have := bk_lt h; omega) (by rw [(bd_1 b (bk_mem h)).1]) hk
theorem bk_ds (hd : bk_ d) (hs : bk_ s) (hne : d ≠ s) : (d = 1 ∧ s = 259) ∨ (d = 259 ∧ s = 1) := by
  rcases hd with rfl | rfl <;> rcases hs with rfl | rfl <;> simp at hne ⊢
theorem tk_words (hd : bk_ d) (hs : bk_ s) (hne : d ≠ s) {N : Int} (h0 : 0 ≤ N) (hN : N ≤ 10) (hc : X d 14 = N) : ∃ A, f_X0_take_234 SH0_ d s FU_ X 0 = some A ∧ (∀ a, ¬ (d + 238 ≤ a ∧ a < d + 238 + 2 * N.toNat) → A a = X a) ∧ ∀ x j k, 0 ≤ x → x < N → L10 j k → A (d + 238 + 2 * x.toNat + j) k = X (s + 238 + 2 * x.toNat + j) k := by
  have hds := bk_ds hd hs hne
  refine lp_cp (F := fun n M x => f_X0_take_234 SH0_ d s n M x) (K := fun A => some A) (L := L10) (by omega) (by omega) (fun j k h => by unfold L10 at h; omega) (fun n x A q1 q2 q3 => ?_) (fun n A q3 => ?_)
  · have kd := bd_w d (bk_mem hd) _ (i_rng (n := 10) q1 (by omega))
    have ks := bd_w s (bk_mem hs) _ (i_rng (n := 10) q1 (by omega))
    have et := t10_ (M := A) (a := wA_ d x) (b := wA_ s x) (by show d + 238 + 2 * x.toNat + 1 < 612; omega) (by show s + 238 + 2 * x.toNat + 1 < 612; omega) kd.1 ks.1 kd.2 ks.2
    obtain ⟨t2, t3⟩ := cp10 (M := A) (a := wA_ d x) (b := wA_ s x) (by show d + 238 + 2 * x.toNat + 1 < s + 238 + 2 * x.toNat ∨ s + 238 + 2 * x.toNat + 1 < d + 238 + 2 * x.toNat; omega) rfl
    refine ⟨_, ?_, t2, t3⟩
    show f_X0_take_234 SH0_ d s (n + 1) A x = _
    have ev : ∀ {β : Type} (o : Option β), vc_ SH0_ (wA_ d x) 10 o = o := fun o => vc_ok (by show d + 238 + 2 * x.toNat < 612; omega) (by rw [kd.1])
    rw [f_X0_take_234, e_book hd rfl, Option.bind_some, q3 d (by omega), hc, if_pos q2, e_words hd, Option.bind_some, e_wordAt hd q1 (by omega), Option.bind_some, e_words hs, Option.bind_some, e_wordAt hs q1 (by omega), Option.bind_some, ev, et, Option.bind_some, wr_n (by omega) (by omega)]
  · show f_X0_take_234 SH0_ d s (n + 1) A N = _
    rw [f_X0_take_234, e_book hd rfl, Option.bind_some, q3 d (by omega), hc, if_neg (by omega)]
theorem tk_says (hd : bk_ d) (hs : bk_ s) (hne : d ≠ s) {N : Int} (h0 : 0 ≤ N) (hN : N ≤ 20) (hc : X d 11 = N) : ∃ A, f_X0_take_195 SH0_ d s FU_ X 0 = f_X0_take_234 SH0_ d s FU_ (st_m A d 14 (X s 14)) 0 ∧ (∀ a, ¬ (d + 218 ≤ a ∧ a < d + 218 + 1 * N.toNat) → A a = X a) ∧ ∀ x j k, 0 ≤ x → x < N → (j = 0 ∧ k ≤ 2) → A (d + 218 + 1 * x.toNat + j) k = X (s + 218 + 1 * x.toNat + j) k := by
  have hds := bk_ds hd hs hne
  refine lp_cp (F := fun n M x => f_X0_take_195 SH0_ d s n M x) (K := fun A => f_X0_take_234 SH0_ d s FU_ (st_m A d 14 (X s 14)) 0) (L := fun j k => j = 0 ∧ k ≤ 2) (by omega) (by omega) (fun j k h => by omega) (fun n x A q1 q2 q3 => ?_) (fun n A q3 => ?_)
  · have kd := bd_y d (bk_mem hd) _ (i_rng (n := 20) q1 (by omega))
    have ks := bd_y s (bk_mem hs) _ (i_rng (n := 20) q1 (by omega))
    obtain ⟨A', et, t2, t3⟩ := t8_ (M := A) (a := yA_ d x) (b := yA_ s x) (by show d + 218 + x.toNat < 612; omega) (by show s + 218 + x.toNat < 612; omega) kd ks (by show s + 218 + x.toNat ≠ d + 218 + x.toNat; omega)
    refine ⟨A', ?_, fun a ha => t2 a (by show ¬ (d + 218 + x.toNat ≤ a ∧ a < d + 218 + x.toNat + 1); omega), fun j k h => by rw [Nat.one_mul]; exact t3 j k h⟩
    show f_X0_take_195 SH0_ d s (n + 1) A x = _
    have ev : ∀ {β : Type} (o : Option β), vc_ SH0_ (yA_ d x) 8 o = o := fun o => vc_ok (by show d + 218 + x.toNat < 612; omega) (by rw [kd])
    rw [f_X0_take_195, e_book hd rfl, Option.bind_some, q3 d (by omega), hc, if_pos q2, e_sayings hd, Option.bind_some, e_sayAt hd q1 (by omega), Option.bind_some, e_sayings hs, Option.bind_some, e_sayAt hs q1 (by omega), Option.bind_some, ev, et, Option.bind_some, wr_n (by omega) (by omega)]
  · show f_X0_take_195 SH0_ d s (n + 1) A N = _
    rw [f_X0_take_195, e_book hd rfl, Option.bind_some, q3 d (by omega), hc, if_neg (by omega), e_book hs rfl, Option.bind_some, q3 s (by omega), e_pbook hd rfl, Option.bind_some]
theorem tk_rules (hd : bk_ d) (hs : bk_ s) (hne : d ≠ s) {N : Int} (h0 : 0 ≤ N) (hN : N ≤ 8) (hc : X d 9 = N) : ∃ A, f_X0_take_156 SH0_ d s FU_ X 0 = f_X0_take_195 SH0_ d s FU_ (st_m A d 11 (X s 11)) 0 ∧ (∀ a, ¬ (d + 210 ≤ a ∧ a < d + 210 + 1 * N.toNat) → A a = X a) ∧ ∀ x j k, 0 ≤ x → x < N → (j = 0 ∧ k ≤ 3) → A (d + 210 + 1 * x.toNat + j) k = X (s + 210 + 1 * x.toNat + j) k := by
  have hds := bk_ds hd hs hne
  refine lp_cp (F := fun n M x => f_X0_take_156 SH0_ d s n M x) (K := fun A => f_X0_take_195 SH0_ d s FU_ (st_m A d 11 (X s 11)) 0) (L := fun j k => j = 0 ∧ k ≤ 3) (by omega) (by omega) (fun j k h => by omega) (fun n x A q1 q2 q3 => ?_) (fun n A q3 => ?_)
  · have kd := bd_r d (bk_mem hd) _ (i_rng (n := 8) q1 (by omega))
    have ks := bd_r s (bk_mem hs) _ (i_rng (n := 8) q1 (by omega))
    obtain ⟨A', et, t2, t3⟩ := t7_ (M := A) (a := rA_ d x) (b := rA_ s x) (by show d + 210 + x.toNat < 612; omega) (by show s + 210 + x.toNat < 612; omega) kd ks (by show s + 210 + x.toNat ≠ d + 210 + x.toNat; omega)
    refine ⟨A', ?_, fun a ha => t2 a (by show ¬ (d + 210 + x.toNat ≤ a ∧ a < d + 210 + x.toNat + 1); omega), fun j k h => by rw [Nat.one_mul]; exact t3 j k h⟩
    show f_X0_take_156 SH0_ d s (n + 1) A x = _
    have ev : ∀ {β : Type} (o : Option β), vc_ SH0_ (rA_ d x) 7 o = o := fun o => vc_ok (by show d + 210 + x.toNat < 612; omega) (by rw [kd])
    rw [f_X0_take_156, e_book hd rfl, Option.bind_some, q3 d (by omega), hc, if_pos q2, e_rules hd, Option.bind_some, e_ruleAt hd q1 (by omega), Option.bind_some, e_rules hs, Option.bind_some, e_ruleAt hs q1 (by omega), Option.bind_some, ev, et, Option.bind_some, wr_n (by omega) (by omega)]
  · show f_X0_take_156 SH0_ d s (n + 1) A N = _
    rw [f_X0_take_156, e_book hd rfl, Option.bind_some, q3 d (by omega), hc, if_neg (by omega), e_book hs rfl, Option.bind_some, q3 s (by omega), e_pbook hd rfl, Option.bind_some]
theorem tk_notes (hd : bk_ d) (hs : bk_ s) (hne : d ≠ s) {N : Int} (h0 : 0 ≤ N) (hN : N ≤ 16) (hc : X d 6 = N) : ∃ A, f_X0_take_117 SH0_ d s FU_ X 0 = f_X0_take_156 SH0_ d s FU_ (st_m A d 9 (X s 9)) 0 ∧ (∀ a, ¬ (d + 130 ≤ a ∧ a < d + 130 + 5 * N.toNat) → A a = X a) ∧ ∀ x j k, 0 ≤ x → x < N → L5_ j k → A (d + 130 + 5 * x.toNat + j) k = X (s + 130 + 5 * x.toNat + j) k := by
  have hds := bk_ds hd hs hne
  refine lp_cp (F := fun n M x => f_X0_take_117 SH0_ d s n M x) (K := fun A => f_X0_take_156 SH0_ d s FU_ (st_m A d 9 (X s 9)) 0) (L := L5_) (by omega) (by omega) (fun j k h => by unfold L5_ at h; omega) (fun n x A q1 q2 q3 => ?_) (fun n A q3 => ?_)
  · have kd := bd_n d (bk_mem hd) _ (i_rng (n := 16) q1 (by omega))
    have ks := bd_n s (bk_mem hs) _ (i_rng (n := 16) q1 (by omega))
    obtain ⟨A', et, t2, t3⟩ := t5_ (M := A) (a := nA_ d x) (b := nA_ s x) (by show d + 130 + 5 * x.toNat + 4 < 612; omega) (by show s + 130 + 5 * x.toNat + 4 < 612; omega) kd.1 ks.1 kd.2.1 ks.2.1 kd.2.2.1 ks.2.2.1 kd.2.2.2.1 ks.2.2.2.1 kd.2.2.2.2 ks.2.2.2.2 (by show d + 130 + 5 * x.toNat + 4 < s + 130 + 5 * x.toNat ∨ s + 130 + 5 * x.toNat + 4 < d + 130 + 5 * x.toNat; omega)
    refine ⟨A', ?_, t2, t3⟩
    show f_X0_take_117 SH0_ d s (n + 1) A x = _
    have ev : ∀ {β : Type} (o : Option β), vc_ SH0_ (nA_ d x) 5 o = o := fun o => vc_ok (by show d + 130 + 5 * x.toNat < 612; omega) (by rw [kd.1])
    rw [f_X0_take_117, e_book hd rfl, Option.bind_some, q3 d (by omega), hc, if_pos q2, e_notes hd, Option.bind_some, e_noteAt hd q1 (by omega), Option.bind_some, e_notes hs, Option.bind_some, e_noteAt hs q1 (by omega), Option.bind_some, ev, et, Option.bind_some, wr_n (by omega) (by omega)]
  · show f_X0_take_117 SH0_ d s (n + 1) A N = _
    rw [f_X0_take_117, e_book hd rfl, Option.bind_some, q3 d (by omega), hc, if_neg (by omega), e_book hs rfl, Option.bind_some, q3 s (by omega), e_pbook hd rfl, Option.bind_some]
theorem tk_cards (hd : bk_ d) (hs : bk_ s) (hne : d ≠ s) {N : Int} (h0 : 0 ≤ N) (hN : N ≤ 40) (hc : X d 4 = N) (h5 : ∀ x, 0 ≤ x → x < N → X (cA_ s x) 5 = 0 ∨ X (cA_ s x) 5 = 1) : ∃ A, f_X0_take_70 SH0_ d s FU_ X 0 = f_X0_take_117 SH0_ d s FU_ (st_m (st_m A d 7 (X s 7)) d 6 (X s 6)) 0 ∧ (∀ a, ¬ (d + 10 ≤ a ∧ a < d + 10 + 3 * N.toNat) → A a = X a) ∧ ∀ x j k, 0 ≤ x → x < N → L1_c j k → A (d + 10 + 3 * x.toNat + j) k = X (s + 10 + 3 * x.toNat + j) k := by
  have hds := bk_ds hd hs hne
  refine lp_cp (F := fun n M x => f_X0_take_70 SH0_ d s n M x) (K := fun A => f_X0_take_117 SH0_ d s FU_ (st_m (st_m A d 7 (X s 7)) d 6 (X s 6)) 0) (L := L1_c) (by omega) (by omega) (fun j k h => by unfold L1_c at h; omega) (fun n x A q1 q2 q3 => ?_) (fun n A q3 => ?_)
  · have kd := bd_c d (bk_mem hd) _ (i_rng (n := 40) q1 (by omega))
    have ks := bd_c s (bk_mem hs) _ (i_rng (n := 40) q1 (by omega))
    obtain ⟨A', et, t2, t3⟩ := t1_ (M := A) (a := cA_ d x) (b := cA_ s x) (by show d + 10 + 3 * x.toNat + 2 < 612; omega) (by show s + 10 + 3 * x.toNat + 2 < 612; omega) kd.1 ks.1 kd.2.1 ks.2.1 kd.2.2 ks.2.2 (by show d + 10 + 3 * x.toNat + 2 < s + 10 + 3 * x.toNat ∨ s + 10 + 3 * x.toNat + 2 < d + 10 + 3 * x.toNat; omega) (by rw [q3 (cA_ s x) (by show ¬ (d + 10 ≤ s + 10 + 3 * x.toNat ∧ s + 10 + 3 * x.toNat < d + 10 + 3 * N.toNat); omega)]; exact h5 x q1 q2)
    refine ⟨A', ?_, t2, t3⟩
    show f_X0_take_70 SH0_ d s (n + 1) A x = _
    have ev : ∀ {β : Type} (o : Option β), vc_ SH0_ (cA_ d x) 1 o = o := fun o => vc_ok (by show d + 10 + 3 * x.toNat < 612; omega) (by rw [kd.1])
    rw [f_X0_take_70, e_book hd rfl, Option.bind_some, q3 d (by omega), hc, if_pos q2, e_cards hd, Option.bind_some, e_cardAt hd q1 (by omega), Option.bind_some, e_cards hs, Option.bind_some, e_cardAt hs q1 (by omega), Option.bind_some, ev, et, Option.bind_some, wr_n (by omega) (by omega)]
  · show f_X0_take_70 SH0_ d s (n + 1) A N = _
    rw [f_X0_take_70, e_book hd rfl, Option.bind_some, q3 d (by omega), hc, if_neg (by omega), e_book hs rfl, Option.bind_some, q3 s (by omega), e_pbook hd rfl, Option.bind_some, e_book hs rfl, Option.bind_some, st_o2 (by omega), q3 s (by omega), e_pbook hd rfl, Option.bind_some]
/-- the whole of a book taken over -/
theorem tk_book (hd : bk_ d) (hs : bk_ s) (hne : d ≠ s) {v : Nat → Int} (hB : RelB s M v) : ∃ N, f_X0_take SH0_ M d s = some N ∧ (∀ a, ¬ (d ≤ a ∧ a < d + 258) → N a = M a) ∧ RelB d N v := by
  have hds := bk_ds hd hs hne
  obtain ⟨c1, c2, c3, c4, c5, c6, c7, c8⟩ := RelB_un hB
  have kd := bd_1 d (bk_mem hd)
  have ks := bd_1 s (bk_mem hs)
  generalize hX : st_m (cpM_ (cpM_ (cpM_ (cpM_ M (s + 1) 0 (d + 1) 0 10) (s + 2) 0 (d + 2) 0 8) (s + 3) 0 (d + 3) 0 8) (s + 9) 0 (d + 9) 0 10) d 4 (M s 4) = X
  have oX : ∀ a, a ≠ d ∧ a ≠ d + 1 ∧ a ≠ d + 2 ∧ a ≠ d + 3 ∧ a ≠ d + 9 → X a = M a := fun a q => by rw [← hX, st_o2 q.1, cp_o q.2.2.2.2, cp_o q.2.2.2.1, cp_o q.2.2.1, cp_o q.2.1]
  have X4 : X d 4 = M s 4 := by rw [← hX, st_e]
  have X1 : ∀ k, k < 10 → X (d + 1) k = M (s + 1) k := fun k hk => by rw [← hX, st_o2 (by omega), cp_o (by omega), cp_o (by omega), cp_o (by omega), cp_at, if_pos ⟨rfl, by omega, by omega⟩, Nat.zero_add, Nat.sub_zero]
  have X2 : ∀ k, k < 8 → X (d + 2) k = M (s + 2) k := fun k hk => by rw [← hX, st_o2 (by omega), cp_o (by omega), cp_o (by omega), cp_at, if_pos ⟨rfl, by omega, by omega⟩, Nat.zero_add, Nat.sub_zero, cp_o (by omega)]
  have X3 : ∀ k, k < 8 → X (d + 3) k = M (s + 3) k := fun k hk => by rw [← hX, st_o2 (by omega), cp_o (by omega), cp_at, if_pos ⟨rfl, by omega, by omega⟩, Nat.zero_add, Nat.sub_zero, cp_o (by omega), cp_o (by omega)]
  have X9 : ∀ k, k < 10 → X (d + 9) k = M (s + 9) k := fun k hk => by rw [← hX, st_o2 (by omega), cp_at, if_pos ⟨rfl, by omega, by omega⟩, Nat.zero_add, Nat.sub_zero, cp_o (by omega), cp_o (by omega), cp_o (by omega)]
  have Xs : X s = M s := oX s (by omega)
  have sN : ∀ x : Int, cA_ s x = s + 10 + 3 * x.toNat := fun x => rfl
  obtain ⟨A1, p1, p2, p3⟩ := tk_cards (X := X) hd hs hne c1.1.1 c1.1.2.1 X4 (fun x q1 q2 => by
    rw [oX (cA_ s x) (by show s + 10 + 3 * x.toNat ≠ d ∧ s + 10 + 3 * x.toNat ≠ d + 1 ∧ s + 10 + 3 * x.toNat ≠ d + 2 ∧ s + 10 + 3 * x.toNat ≠ d + 3 ∧ s + 10 + 3 * x.toNat ≠ d + 9; have := c1.1.2.1; omega)]
    exact (c1.2 x q1 q2).2.2.2.2.2.2.1.2)
  have b4 := c1.1
  have b6 := c2.1
  have b9 := c3.1
  have b11 := c4.1
  have b14 := c5.1
  generalize hB1 : st_m (st_m A1 d 7 (X s 7)) d 6 (X s 6) = B1 at p1
  have oB1 : ∀ a, a ≠ d → B1 a = A1 a := fun a q => by rw [← hB1, st_o2 q, st_o2 q]
  have B16 : B1 d 6 = M s 6 := by rw [← hB1, st_e, Xs]
  obtain ⟨A2, r1, r2, r3⟩ := tk_notes (X := B1) hd hs hne b6.1 b6.2.1 B16
  have B1s : B1 s = M s := by rw [oB1 s (by omega), p2 s (by omega), Xs]
  generalize hB2 : st_m A2 d 9 (B1 s 9) = B2 at r1
  have oB2 : ∀ a, a ≠ d → B2 a = A2 a := fun a q => by rw [← hB2, st_o2 q]
  have B29 : B2 d 9 = M s 9 := by rw [← hB2, st_e, B1s]
  obtain ⟨A3, t1, t2, t3⟩ := tk_rules (X := B2) hd hs hne b9.1 b9.2.1 B29
  have B2s : B2 s = M s := by rw [oB2 s (by omega), r2 s (by omega), B1s]
  generalize hB3 : st_m A3 d 11 (B2 s 11) = B3 at t1
  have oB3 : ∀ a, a ≠ d → B3 a = A3 a := fun a q => by rw [← hB3, st_o2 q]
  have B311 : B3 d 11 = M s 11 := by rw [← hB3, st_e, B2s]
  obtain ⟨A4, u1, u2, u3⟩ := tk_says (X := B3) hd hs hne b11.1 b11.2.1 B311
  have B3s : B3 s = M s := by rw [oB3 s (by omega), t2 s (by omega), B2s]
  generalize hB4 : st_m A4 d 14 (B3 s 14) = B4 at u1
  have oB4 : ∀ a, a ≠ d → B4 a = A4 a := fun a q => by rw [← hB4, st_o2 q]
  have B414 : B4 d 14 = M s 14 := by rw [← hB4, st_e, B3s]
  obtain ⟨A5, w1, w2, w3⟩ := tk_words (X := B4) hd hs hne b14.1 b14.2.1 B414
  -- how rows go through
  have g1 : ∀ a, ¬ (d ≤ a ∧ a < d + 130) → B1 a = M a := fun a q => by rw [oB1 a (by omega), p2 a (by omega), oX a (by omega)]
  have g2 : ∀ a, ¬ (d ≤ a ∧ a < d + 210) → B2 a = M a := fun a q => by rw [oB2 a (by omega), r2 a (by omega), g1 a (by omega)]
  have g3 : ∀ a, ¬ (d ≤ a ∧ a < d + 218) → B3 a = M a := fun a q => by rw [oB3 a (by omega), t2 a (by omega), g2 a (by omega)]
  have g4 : ∀ a, ¬ (d ≤ a ∧ a < d + 238) → B4 a = M a := fun a q => by rw [oB4 a (by omega), u2 a (by omega), g3 a (by omega)]
  have i4 : ∀ a, d + 210 ≤ a → a < d + 218 → A5 a = A3 a := fun a q1 q2 => by rw [w2 a (by omega), oB4 a (by omega), u2 a (by omega), oB3 a (by omega)]
  have i3 : ∀ a, d + 130 ≤ a → a < d + 210 → A5 a = A2 a := fun a q1 q2 => by rw [w2 a (by omega), oB4 a (by omega), u2 a (by omega), oB3 a (by omega), t2 a (by omega), oB2 a (by omega)]
  have i5 : ∀ a, d + 218 ≤ a → a < d + 238 → A5 a = A4 a := fun a q1 q2 => by rw [w2 a (by omega), oB4 a (by omega)]
  have i2 : ∀ a, d < a → a < d + 130 → A5 a = A1 a := fun a q1 q2 => by rw [w2 a (by omega), oB4 a (by omega), u2 a (by omega), oB3 a (by omega), t2 a (by omega), oB2 a (by omega), r2 a (by omega), oB1 a (by omega)]
  have i1 : ∀ a, d < a → a < d + 10 → A5 a = X a := fun a q1 q2 => by rw [i2 a q1 (by omega), p2 a (by omega)]
  have n14 : A5 d 14 = M s 14 := by rw [w2 d (by omega), B414]
  have n11 : A5 d 11 = M s 11 := by rw [w2 d (by omega), ← hB4, st_k (by decide), u2 d (by omega), B311]
  have n9 : A5 d 9 = M s 9 := by rw [w2 d (by omega), ← hB4, st_k (by decide), u2 d (by omega), ← hB3, st_k (by decide), t2 d (by omega), B29]
  have n6 : A5 d 6 = M s 6 := by rw [w2 d (by omega), ← hB4, st_k (by decide), u2 d (by omega), ← hB3, st_k (by decide), t2 d (by omega), ← hB2, st_k (by decide), r2 d (by omega), B16]
  have n7 : A5 d 7 = M s 7 := by rw [w2 d (by omega), ← hB4, st_k (by decide), u2 d (by omega), ← hB3, st_k (by decide), t2 d (by omega), ← hB2, st_k (by decide), r2 d (by omega), ← hB1, st_k (by decide), st_e, Xs]
  have n4 : A5 d 4 = M s 4 := by rw [w2 d (by omega), ← hB4, st_k (by decide), u2 d (by omega), ← hB3, st_k (by decide), t2 d (by omega), ← hB2, st_k (by decide), r2 d (by omega), ← hB1, st_k (by decide), st_k (by decide), p2 d (by omega), X4]
  refine ⟨A5, ?_, fun a q => by rw [w2 a (by omega), g4 a (by omega)], RelB_mk ?_ ?_ ?_ ?_ ?_ ?_ ?_ ?_⟩
  · unfold f_X0_take
    rw [e_classes hs, Option.bind_some, e_classes hd, Option.bind_some, cp_ok (Na := 10) (Nb := 10) (by omega) (by omega) ks.2.1 kd.2.1 (by decide) (by decide) (by decide) (by decide) (by decide), Option.bind_some]
    rw [e_villages hs, Option.bind_some, e_villages hd, Option.bind_some, cp_ok (Na := 8) (Nb := 8) (by omega) (by omega) ks.2.2.1 kd.2.2.1 (by decide) (by decide) (by decide) (by decide) (by decide), Option.bind_some]
    rw [e_rests hs, Option.bind_some, e_rests hd, Option.bind_some, cp_ok (Na := 8) (Nb := 8) (by omega) (by omega) ks.2.2.2.1 kd.2.2.2.1 (by decide) (by decide) (by decide) (by decide) (by decide), Option.bind_some]
    rw [e_wordCards hs, Option.bind_some, e_wordCards hd, Option.bind_some, cp_ok (Na := 10) (Nb := 10) (by omega) (by omega) ks.2.2.2.2.2.2.2.2.2 kd.2.2.2.2.2.2.2.2.2 (by decide) (by decide) (by decide) (by decide) (by decide), Option.bind_some]
    rw [e_book hs rfl, Option.bind_some, e_pbook hd rfl, Option.bind_some]
    show f_X0_take_70 SH0_ d s FU_ (st_m (cpM_ (cpM_ (cpM_ (cpM_ M (s + 1) 0 (d + 1) 0 10) (s + 2) 0 (d + 2) 0 8) (s + 3) 0 (d + 3) 0 8) (s + 9) 0 (d + 9) 0 10) d 4 (cpM_ (cpM_ (cpM_ (cpM_ M (s + 1) 0 (d + 1) 0 10) (s + 2) 0 (d + 2) 0 8) (s + 3) 0 (d + 3) 0 8) (s + 9) 0 (d + 9) 0 10 s 4)) 0 = _
    rw [cp_o (c := s) (by omega), cp_o (c := s) (by omega), cp_o (c := s) (by omega), cp_o (c := s) (by omega), hX, p1, r1, t1, u1, w1]
  · unfold Bc_ at c1 ⊢
    rw [n4]
    refine ⟨c1.1, fun x q1 q2 => ?_⟩
    have hc := c1.2 x q1 q2
    have e : ∀ j k, L1_c j k → A5 (d + 10 + 3 * x.toNat + j) k = M (s + 10 + 3 * x.toNat + j) k := fun j k h => by
      have hj : j < 3 := by unfold L1_c at h; omega
      rw [i2 _ (by omega) (by omega), p3 x j k q1 q2 h, oX _ (by omega)]
    unfold Rcard at hc ⊢
    have f0 : ∀ k, 1 ≤ k → k ≤ 6 → A5 (cA_ d x) k = M (cA_ s x) k := fun k k1 k2 => e 0 k (Or.inl ⟨rfl, k1, k2⟩)
    have f1 : A5 (cA_ d x + 1) 1 = M (cA_ s x + 1) 1 := e 1 1 (Or.inr (Or.inl ⟨rfl, rfl⟩))
    rw [f0 1 (by omega) (by omega), f0 2 (by omega) (by omega), f0 3 (by omega) (by omega), f0 4 (by omega) (by omega), f0 5 (by omega) (by omega), f0 6 (by omega) (by omega), f1]
    refine ⟨hc.1, fun i p1 p2 => ?_, hc.2.2⟩
    have h8 := hc.1.2.1
    rw [show A5 (cA_ d x + 2) i.toNat = M (cA_ s x + 2) i.toNat from e 2 i.toNat (Or.inr (Or.inr ⟨rfl, by omega⟩))]
    exact hc.2.1 i p1 p2
  · unfold Bn_ at c2 ⊢
    rw [n6, n7]
    refine ⟨c2.1, c2.2.1, fun x q1 q2 => ?_⟩
    have hc := c2.2.2 x q1 q2
    have e : ∀ j k, L5_ j k → A5 (d + 130 + 5 * x.toNat + j) k = M (s + 130 + 5 * x.toNat + j) k := fun j k h => by
      have hj : j < 5 := by unfold L5_ at h; omega
      rw [i3 _ (by omega) (by omega), r3 x j k q1 q2 h, g1 _ (by omega)]
    unfold Rnote at hc ⊢
    rw [n7, show A5 (nA_ d x) 0 = M (nA_ s x) 0 from e 0 0 (Or.inl ⟨rfl, by decide⟩), show A5 (nA_ d x) 1 = M (nA_ s x) 1 from e 0 1 (Or.inl ⟨rfl, by decide⟩), show A5 (nA_ d x + 1) 1 = M (nA_ s x + 1) 1 from e 1 1 (Or.inr (Or.inl ⟨rfl, rfl⟩)), show A5 (nA_ d x + 3) 1 = M (nA_ s x + 3) 1 from e 3 1 (Or.inr (Or.inr (Or.inr (Or.inl ⟨rfl, rfl⟩))))]
    have h4 := hc.2.2.1.2.2
    have h1' := hc.2.2.1.2.1
    have e2 : ∀ k, k < 8 → A5 (nA_ d x + 2) k = M (nA_ s x + 2) k := fun k hk => e 2 k (Or.inr (Or.inr (Or.inl ⟨rfl, hk⟩)))
    have e4 : ∀ k, k < 8 → A5 (nA_ d x + 4) k = M (nA_ s x + 4) k := fun k hk => e 4 k (Or.inr (Or.inr (Or.inr (Or.inr ⟨rfl, hk⟩))))
    have h8 : M (nA_ s x + 3) 1 ≤ 8 := by rw [hc.2.2.2.2.1]; split <;> omega
    refine ⟨hc.1, hc.2.1, hc.2.2.1, fun i p1 p2 => ?_, hc.2.2.2.2.1, fun i p1 p2 => ?_, hc.2.2.2.2.2.2⟩
    · rw [e2 _ (by omega)]; exact hc.2.2.2.1 i p1 p2
    · have hm := Int.emod_lt_of_pos i (show 0 < M (nA_ s x + 1) 1 by omega)
      have hm2 := Int.emod_nonneg i (show M (nA_ s x + 1) 1 ≠ 0 by omega)
      rw [e4 _ (by omega), e2 _ (by omega)]; exact hc.2.2.2.2.2.1 i p1 p2
  · unfold Br_ at c3 ⊢
    rw [n9]
    refine ⟨c3.1, fun x q1 q2 => ?_⟩
    have hc := c3.2 x q1 q2
    have e : ∀ k, k ≤ 3 → A5 (rA_ d x) k = M (rA_ s x) k := fun k h => by
      have h3 := t3 x 0 k q1 q2 ⟨rfl, h⟩
      show A5 (d + 210 + x.toNat) k = M (s + 210 + x.toNat) k
      rw [i4 _ (by omega) (by omega)]
      rw [Nat.one_mul, Nat.add_zero, Nat.add_zero, g2 _ (by omega)] at h3
      exact h3
    unfold Rrule at hc ⊢
    rw [e 0 (by omega), e 1 (by omega), e 2 (by omega), e 3 (by omega)]
    exact hc
  · unfold By_ at c4 ⊢
    rw [n11]
    refine ⟨c4.1, fun x q1 q2 => ?_⟩
    have hc := c4.2 x q1 q2
    have e : ∀ k, k ≤ 2 → A5 (yA_ d x) k = M (yA_ s x) k := fun k h => by
      have h3 := u3 x 0 k q1 q2 ⟨rfl, h⟩
      show A5 (d + 218 + x.toNat) k = M (s + 218 + x.toNat) k
      rw [i5 _ (by omega) (by omega)]
      rw [Nat.one_mul, Nat.add_zero, Nat.add_zero, g3 _ (by omega)] at h3
      exact h3
    unfold Rsaying at hc ⊢
    rw [e 0 (by omega), e 1 (by omega), e 2 (by omega)]
    exact hc
  · unfold Bw_ at c5 ⊢
    rw [n14]
    refine ⟨c5.1, fun x q1 q2 => ?_⟩
    have hc := c5.2 x q1 q2
    have e : ∀ j k, L10 j k → A5 (d + 238 + 2 * x.toNat + j) k = M (s + 238 + 2 * x.toNat + j) k := fun j k h => by
      have hj : j < 2 := by unfold L10 at h; omega
      rw [w3 x j k q1 q2 h, g4 _ (by omega)]
    unfold Rword at hc ⊢
    have h8 := hc.1.2.2
    rw [n4, show A5 (wA_ d x) 1 = M (wA_ s x) 1 from e 0 1 (Or.inl ⟨rfl, rfl⟩), show A5 (d + 9) x.toNat = M (s + 9) x.toNat by rw [i1 _ (by omega) (by omega), X9 _ (by omega)]]
    refine ⟨hc.1, fun i p1 p2 => ?_, hc.2.2⟩
    rw [show A5 (wA_ d x + 1) i.toNat = M (wA_ s x + 1) i.toNat from e 1 i.toNat (Or.inr ⟨rfl, by omega⟩)]
    exact hc.2.1 i p1 p2
  · intro k q1 q2
    rw [i1 _ (by omega) (by omega), X1 _ (by omega)]; exact c6 k q1 q2
  · intro k q1 q2
    rw [i1 _ (by omega) (by omega), X2 _ (by omega)]; exact c7 k q1 q2
  · intro k q1 q2
    rw [i1 _ (by omega) (by omega), X3 _ (by omega)]; exact c8 k q1 q2
theorem RelB_w {v w : Nat → Int} (hw : ∀ k, k < 1067 → w k = v k) (h : RelB b M v) : RelB b M w := by
  obtain ⟨c1, c2, c3, c4, c5, c6, c7, c8⟩ := RelB_un h
  exact RelB_mk (Bc_tr (fun _ _ _ => rfl) rfl (fun k hk => hw k (by omega)) (hw _ (by omega)) c1) (Bn_tr (fun _ _ _ => rfl) rfl rfl (fun k _ hk => hw k (by omega)) (hw _ (by omega)) c2) (Br_tr (fun _ _ _ => rfl) rfl (fun k _ hk => hw k (by omega)) (hw _ (by omega)) c3) (By_tr (fun _ _ _ => rfl) rfl (fun k _ hk => hw k (by omega)) (hw _ (by omega)) c4) (Bw_tr (fun _ _ _ => rfl) rfl (Int.le_refl _) rfl (fun k _ hk => hw k (by omega)) (hw _ (by omega)) c5) (Bk_tr rfl (fun k _ hk => hw k (by omega)) c6) (Bv_tr rfl (fun k _ hk => hw k (by omega)) c7) (Be_tr rfl (fun k _ hk => hw k (by omega)) c8)
end
/-- a row copied to another, up to x -/
def cq_ (M : Mem_m) (p q : Nat) (x : Int) : Mem_m := fun b k => if b = q ∧ (k : Int) < x then M p k else M b k
theorem cq_0 {M : Mem_m} {p q : Nat} : cq_ M p q 0 = M := by funext b k; unfold cq_; rw [if_neg (by omega)]
theorem cq_o {M : Mem_m} {p q b : Nat} {x : Int} (h : b ≠ q) : cq_ M p q x b = M b := by funext k; unfold cq_; rw [if_neg (fun z => h z.1)]
theorem cq_i {M : Mem_m} {p q k : Nat} {x : Int} (h : (k : Int) < x) : cq_ M p q x q k = M p k := by unfold cq_; rw [if_pos ⟨rfl, h⟩]
theorem cq_s {M : Mem_m} {p q : Nat} {x : Int} (hx : 0 ≤ x) : st_m (cq_ M p q x) q x.toNat (M p x.toNat) = cq_ M p q (x + 1) := by
  funext b k
  rw [st_at]
  unfold cq_
  by_cases hb : b = q ∧ k = x.toNat
  · rw [if_pos hb, if_pos (by omega), hb.2]
  · rw [if_neg hb]
    have e : (b = q ∧ (k : Int) < x) ↔ (b = q ∧ (k : Int) < x + 1) := by omega
    simp only [e]
theorem Rshelf_s2 {M N : Mem_m} {d : Int} (h1 : 0 ≤ d) (h2 : d < 8) (hN : ∀ a, (536 ≤ a ∧ a ≤ 591) ∨ (595 ≤ a ∧ a ≤ 600) → N a = M a) (h : Rshelf M d) : Rshelf N d :=
  Rshelf_tr (fun k hk => hN _ (by show (536 ≤ 536 + 7 * d.toNat + k ∧ 536 + 7 * d.toNat + k ≤ 591) ∨ (595 ≤ 536 + 7 * d.toNat + k ∧ 536 + 7 * d.toNat + k ≤ 600); omega)) (by rw [hN 595 (by omega)]) (by rw [hN 596 (by omega)]) (by rw [hN 597 (by omega)]) (fun k _ _ => by rw [hN 598 (by omega)]) (by rw [hN 599 (by omega)]) (by rw [hN 600 (by omega)]) h
theorem sim30 : sim_30 R_ := by
  intro M hM hR
  obtain ⟨v, hV⟩ := vw_of hR
  obtain ⟨r1, ⟨r2, r3⟩, r4, r5, r6⟩ := hR
  obtain ⟨N, n1, n2, n3⟩ := tk_book (d := 259) (s := 1) (Or.inr rfl) (Or.inl rfl) (by decide) (vw_rel hV)
  have N593 : N 593 = v := by rw [n2 593 (by omega)]; exact hV.2
  have N14 : N 1 4 = v 1062 := by rw [n2 1 (by omega), vw_4 hV]
  generalize hC : st_m N 0 2 1 = C
  have oC : ∀ a, a ≠ 0 → C a = N a := fun a q => by rw [← hC, st_o2 q]
  have C593 : C 593 = v := by rw [oC 593 (by decide), N593]
  refine ⟨v 1062, C, st_m (cq_ C 593 594 1067) 592 8 1, ?_, ?_, ?_⟩
  · unfold f_X11_image
    simp (disch := omega) only [↓bqr_C, ↓bqr_D, ↓bqr_N2, ↓bqr_N3, ↓bqr_O, ↓bqr_Q, ↓bqr_W, ↓bqr_S1, ↓bqr_S4, ↓bqr_T2, ↓bqr_T3, ↓bqr_F, ↓bqr_H, ↓bqa_C, ↓bqa_N, ↓bqa_U, ↓bqa_Y, ↓bqa_W, ↓bqa_S, ↓bqgkC_1, ↓bqgkC_2, ↓bqgkC_3, ↓bqgkC_4, ↓bqgkC_5, ↓bqgkC_6, ↓bqgkD_1, ↓bqgkN_0, ↓bqgkN_1, ↓bqgkO_1, ↓bqgkQ_1, ↓bqgkW_1, ↓bqgkS_0, ↓bqgkS_2, ↓bqgkS_3, ↓bqgkT_0, ↓bqgkT_1, ↓bqgkF_1, ↓bqgkH_1, ↓bqgkU_0, ↓bqgkU_1, ↓bqgkU_2, ↓bqgkU_3, ↓bqgkU_4, ↓bqgkY_0, ↓bqgkY_1, ↓bqgkY_2, ↓bqikE_, ↓bqikP_, ↓bqikR_, ↓bqikX_, ↓bqikG_, ↓bqikI_, ↓bqikJ_, ↓bqvkC_, ↓bqvkD_, ↓bqvkN_, ↓bqvkO_, ↓bqvkQ_, ↓bqvkU_, ↓bqvkY_, ↓bqvkW_, ↓bqvkS_, ↓bqvkT_, ↓bqvkF_, ↓bqvkH_, ↓bqr_0_0, ↓bqr_0_1, ↓bqr_0_3, ↓bqr_0_4, ↓bqr_0_5, ↓bqr_0_6, ↓bqr_0_7, ↓bqr_0_8, ↓bqr_1_0, ↓bqr_1_1, ↓bqr_1_2, ↓bqr_1_3, ↓bqr_1_5, ↓bqr_1_8, ↓bqr_1_10, ↓bqr_1_12, ↓bqr_1_13, ↓bqr_518_0, ↓bqr_518_1, ↓bqr_518_2, ↓bqr_518_6, ↓bqr_518_7, ↓bqr_524_0, ↓bqr_524_2, ↓bqr_524_4, ↓bqr_528_0, ↓bqr_528_1, ↓bqr_531_0, ↓bqr_531_1, ↓bqr_531_3, ↓bqr_592_0, ↓bqr_592_1, ↓bqr_592_2, ↓bqr_592_3, ↓bqr_592_4, ↓bqr_592_5, ↓bqr_592_6, ↓bqr_592_7, ↓bqr_592_11, ↓bqr_592_12, ↓bqr_592_13, ↓bqr_592_17, ↓bqr_592_18, ↓bqr_592_19, ↓bqr_592_23, ↓bqr_592_26, ↓bqr_592_27, ↓bqr_592_28, ↓bqg_0_2, ↓bqg_1_4, ↓bqg_1_6, ↓bqg_1_7, ↓bqg_1_9, ↓bqg_1_11, ↓bqg_1_14, ↓bqg_518_3, ↓bqg_518_4, ↓bqg_518_5, ↓bqg_518_8, ↓bqg_518_9, ↓bqg_524_1, ↓bqg_524_3, ↓bqg_528_2, ↓bqg_528_3, ↓bqg_531_2, ↓bqg_535_0, ↓bqg_535_1, ↓bqg_535_2, ↓bqg_535_3, ↓bqg_535_4, ↓bqg_592_8, ↓bqg_592_9, ↓bqg_592_10, ↓bqg_592_14, ↓bqg_592_15, ↓bqg_592_16, ↓bqg_592_20, ↓bqg_592_21, ↓bqg_592_22, ↓bqg_592_24, ↓bqg_592_25, ↓bqg_592_29, ↓bqg_592_30, ↓bqg_592_31, ↓bqg_592_32, ↓bqv_0, ↓bqv_1, ↓bqv_259, ↓bqv_518, ↓bqv_524, ↓bqv_528, ↓bqv_531, ↓bqv_535, ↓bqv_592, ↓bqi_2, ↓bqi_3, ↓bqi_4, ↓bqi_10, ↓bqi_519, ↓bqi_520, ↓bqi_521, ↓bqi_522, ↓bqi_523, ↓bqi_525, ↓bqi_526, ↓bqi_527, ↓bqi_529, ↓bqi_530, ↓bqi_532, ↓bqi_533, ↓bqi_534, ↓bqi_593, ↓bqi_594, ↓bqi_595, ↓bqi_596, ↓bqi_597, ↓bqi_598, ↓bqi_599, ↓bqi_600, ↓bqi_601, ↓bqi_602, ↓bqi_603, ↓bqi_604, ↓bqi_605, ↓bqi_606, ↓bqi_608, ↓bqi_609, ↓bqi_610, ↓bqz_607, ↓Option.bind_some, ↓bc_isIn, ↓bm_isIn, ↓bm_isShelf, i01, i10, j01, if_true, if_false, not_true_eq_false, not_false_eq_true, and_true, true_and, and_self, false_and, and_false, ↓reduceIte, Int.reduceEq, Int.reduceLT, Int.reduceLE, Int.reduceNeg, Int.reduceAdd, Int.reduceSub, Int.reduceMul, Int.reduceNe, Int.reduceToNat, Nat.reduceAdd, Nat.reduceMul, Nat.reduceEqDiff, ↓bqpkC_1, ↓bqpkC_2, ↓bqpkC_3, ↓bqpkC_4, ↓bqpkC_5, ↓bqpkC_6, ↓bqpkD_1, ↓bqpkN_0, ↓bqpkN_1, ↓bqpkO_1, ↓bqpkQ_1, ↓bqpkW_1, ↓bqpkS_0, ↓bqpkS_2, ↓bqpkS_3, ↓bqpkT_0, ↓bqpkT_1, ↓bqpkF_1, ↓bqpkH_1, ↓bqpkU_0, ↓bqpkU_1, ↓bqpkU_2, ↓bqpkU_3, ↓bqpkU_4, ↓bqpkY_0, ↓bqpkY_1, ↓bqpkY_2, ↓bqskE_, ↓bqskP_, ↓bqskR_, ↓bqskX_, ↓bqskG_, ↓bqskI_, ↓bqskJ_, ↓bqp_0_2, ↓bqp_1_4, ↓bqp_1_6, ↓bqp_1_7, ↓bqp_1_9, ↓bqp_1_11, ↓bqp_1_14, ↓bqp_518_3, ↓bqp_518_4, ↓bqp_518_5, ↓bqp_518_8, ↓bqp_518_9, ↓bqp_524_1, ↓bqp_524_3, ↓bqp_528_2, ↓bqp_528_3, ↓bqp_531_2, ↓bqp_535_0, ↓bqp_535_1, ↓bqp_535_2, ↓bqp_535_3, ↓bqp_535_4, ↓bqp_592_8, ↓bqp_592_9, ↓bqp_592_10, ↓bqp_592_14, ↓bqp_592_15, ↓bqp_592_16, ↓bqp_592_20, ↓bqp_592_21, ↓bqp_592_22, ↓bqp_592_24, ↓bqp_592_25, ↓bqp_592_29, ↓bqp_592_30, ↓bqp_592_31, ↓bqp_592_32, ↓bqs_2, ↓bqs_3, ↓bqs_4, ↓bqs_10, ↓bqs_519, ↓bqs_520, ↓bqs_521, ↓bqs_522, ↓bqs_523, ↓bqs_525, ↓bqs_526, ↓bqs_527, ↓bqs_529, ↓bqs_530, ↓bqs_532, ↓bqs_533, ↓bqs_534, ↓bqs_593, ↓bqs_594, ↓bqs_595, ↓bqs_596, ↓bqs_597, ↓bqs_598, ↓bqs_599, ↓bqs_600, ↓bqs_601, ↓bqs_602, ↓bqs_603, ↓bqs_604, ↓bqs_605, ↓bqs_606, ↓bqs_608, ↓bqs_609, ↓bqs_610, ↓bqt_607, n1, or_true, hC, oC 1 (by decide), N14]
  · unfold f_X12_image
    refine lp_run (A := Mem_m) (fun n x M => f_X12_image_2 SH0_ 592 n M x) 1067 (fun x A => 0 ≤ x ∧ x ≤ 1067 ∧ A = cq_ C 593 594 x) (fun o => o = some (st_m (cq_ C 593 594 1067) 592 8 1, v 1062)) ?_ ?_ FU_ 0 C (by unfold FU_; omega) ⟨by omega, by omega, cq_0.symm⟩
    · intro n x A hx ⟨q1, q2, q3⟩
      refine Or.inl ⟨cq_ C 593 594 (x + 1), ?_, by omega, by omega, rfl⟩
      subst q3
      show f_X12_image_2 SH0_ 592 (n + 1) _ x = _
      rw [f_X12_image_2, if_pos hx]
      simp (disch := omega) only [↓bqr_C, ↓bqr_D, ↓bqr_N2, ↓bqr_N3, ↓bqr_O, ↓bqr_Q, ↓bqr_W, ↓bqr_S1, ↓bqr_S4, ↓bqr_T2, ↓bqr_T3, ↓bqr_F, ↓bqr_H, ↓bqa_C, ↓bqa_N, ↓bqa_U, ↓bqa_Y, ↓bqa_W, ↓bqa_S, ↓bqgkC_1, ↓bqgkC_2, ↓bqgkC_3, ↓bqgkC_4, ↓bqgkC_5, ↓bqgkC_6, ↓bqgkD_1, ↓bqgkN_0, ↓bqgkN_1, ↓bqgkO_1, ↓bqgkQ_1, ↓bqgkW_1, ↓bqgkS_0, ↓bqgkS_2, ↓bqgkS_3, ↓bqgkT_0, ↓bqgkT_1, ↓bqgkF_1, ↓bqgkH_1, ↓bqgkU_0, ↓bqgkU_1, ↓bqgkU_2, ↓bqgkU_3, ↓bqgkU_4, ↓bqgkY_0, ↓bqgkY_1, ↓bqgkY_2, ↓bqikE_, ↓bqikP_, ↓bqikR_, ↓bqikX_, ↓bqikG_, ↓bqikI_, ↓bqikJ_, ↓bqvkC_, ↓bqvkD_, ↓bqvkN_, ↓bqvkO_, ↓bqvkQ_, ↓bqvkU_, ↓bqvkY_, ↓bqvkW_, ↓bqvkS_, ↓bqvkT_, ↓bqvkF_, ↓bqvkH_, ↓bqr_0_0, ↓bqr_0_1, ↓bqr_0_3, ↓bqr_0_4, ↓bqr_0_5, ↓bqr_0_6, ↓bqr_0_7, ↓bqr_0_8, ↓bqr_1_0, ↓bqr_1_1, ↓bqr_1_2, ↓bqr_1_3, ↓bqr_1_5, ↓bqr_1_8, ↓bqr_1_10, ↓bqr_1_12, ↓bqr_1_13, ↓bqr_518_0, ↓bqr_518_1, ↓bqr_518_2, ↓bqr_518_6, ↓bqr_518_7, ↓bqr_524_0, ↓bqr_524_2, ↓bqr_524_4, ↓bqr_528_0, ↓bqr_528_1, ↓bqr_531_0, ↓bqr_531_1, ↓bqr_531_3, ↓bqr_592_0, ↓bqr_592_1, ↓bqr_592_2, ↓bqr_592_3, ↓bqr_592_4, ↓bqr_592_5, ↓bqr_592_6, ↓bqr_592_7, ↓bqr_592_11, ↓bqr_592_12, ↓bqr_592_13, ↓bqr_592_17, ↓bqr_592_18, ↓bqr_592_19, ↓bqr_592_23, ↓bqr_592_26, ↓bqr_592_27, ↓bqr_592_28, ↓bqg_0_2, ↓bqg_1_4, ↓bqg_1_6, ↓bqg_1_7, ↓bqg_1_9, ↓bqg_1_11, ↓bqg_1_14, ↓bqg_518_3, ↓bqg_518_4, ↓bqg_518_5, ↓bqg_518_8, ↓bqg_518_9, ↓bqg_524_1, ↓bqg_524_3, ↓bqg_528_2, ↓bqg_528_3, ↓bqg_531_2, ↓bqg_535_0, ↓bqg_535_1, ↓bqg_535_2, ↓bqg_535_3, ↓bqg_535_4, ↓bqg_592_8, ↓bqg_592_9, ↓bqg_592_10, ↓bqg_592_14, ↓bqg_592_15, ↓bqg_592_16, ↓bqg_592_20, ↓bqg_592_21, ↓bqg_592_22, ↓bqg_592_24, ↓bqg_592_25, ↓bqg_592_29, ↓bqg_592_30, ↓bqg_592_31, ↓bqg_592_32, ↓bqv_0, ↓bqv_1, ↓bqv_259, ↓bqv_518, ↓bqv_524, ↓bqv_528, ↓bqv_531, ↓bqv_535, ↓bqv_592, ↓bqi_2, ↓bqi_3, ↓bqi_4, ↓bqi_10, ↓bqi_519, ↓bqi_520, ↓bqi_521, ↓bqi_522, ↓bqi_523, ↓bqi_525, ↓bqi_526, ↓bqi_527, ↓bqi_529, ↓bqi_530, ↓bqi_532, ↓bqi_533, ↓bqi_534, ↓bqi_593, ↓bqi_594, ↓bqi_595, ↓bqi_596, ↓bqi_597, ↓bqi_598, ↓bqi_599, ↓bqi_600, ↓bqi_601, ↓bqi_602, ↓bqi_603, ↓bqi_604, ↓bqi_605, ↓bqi_606, ↓bqi_608, ↓bqi_609, ↓bqi_610, ↓bqz_607, ↓Option.bind_some, ↓bc_isIn, ↓bm_isIn, ↓bm_isShelf, i01, i10, j01, if_true, if_false, not_true_eq_false, not_false_eq_true, and_true, true_and, and_self, false_and, and_false, ↓reduceIte, Int.reduceEq, Int.reduceLT, Int.reduceLE, Int.reduceNeg, Int.reduceAdd, Int.reduceSub, Int.reduceMul, Int.reduceNe, Int.reduceToNat, Nat.reduceAdd, Nat.reduceMul, Nat.reduceEqDiff, ↓bqpkC_1, ↓bqpkC_2, ↓bqpkC_3, ↓bqpkC_4, ↓bqpkC_5, ↓bqpkC_6, ↓bqpkD_1, ↓bqpkN_0, ↓bqpkN_1, ↓bqpkO_1, ↓bqpkQ_1, ↓bqpkW_1, ↓bqpkS_0, ↓bqpkS_2, ↓bqpkS_3, ↓bqpkT_0, ↓bqpkT_1, ↓bqpkF_1, ↓bqpkH_1, ↓bqpkU_0, ↓bqpkU_1, ↓bqpkU_2, ↓bqpkU_3, ↓bqpkU_4, ↓bqpkY_0, ↓bqpkY_1, ↓bqpkY_2, ↓bqskE_, ↓bqskP_, ↓bqskR_, ↓bqskX_, ↓bqskG_, ↓bqskI_, ↓bqskJ_, ↓bqp_0_2, ↓bqp_1_4, ↓bqp_1_6, ↓bqp_1_7, ↓bqp_1_9, ↓bqp_1_11, ↓bqp_1_14, ↓bqp_518_3, ↓bqp_518_4, ↓bqp_518_5, ↓bqp_518_8, ↓bqp_518_9, ↓bqp_524_1, ↓bqp_524_3, ↓bqp_528_2, ↓bqp_528_3, ↓bqp_531_2, ↓bqp_535_0, ↓bqp_535_1, ↓bqp_535_2, ↓bqp_535_3, ↓bqp_535_4, ↓bqp_592_8, ↓bqp_592_9, ↓bqp_592_10, ↓bqp_592_14, ↓bqp_592_15, ↓bqp_592_16, ↓bqp_592_20, ↓bqp_592_21, ↓bqp_592_22, ↓bqp_592_24, ↓bqp_592_25, ↓bqp_592_29, ↓bqp_592_30, ↓bqp_592_31, ↓bqp_592_32, ↓bqs_2, ↓bqs_3, ↓bqs_4, ↓bqs_10, ↓bqs_519, ↓bqs_520, ↓bqs_521, ↓bqs_522, ↓bqs_523, ↓bqs_525, ↓bqs_526, ↓bqs_527, ↓bqs_529, ↓bqs_530, ↓bqs_532, ↓bqs_533, ↓bqs_534, ↓bqs_593, ↓bqs_594, ↓bqs_595, ↓bqs_596, ↓bqs_597, ↓bqs_598, ↓bqs_599, ↓bqs_600, ↓bqs_601, ↓bqs_602, ↓bqs_603, ↓bqs_604, ↓bqs_605, ↓bqs_606, ↓bqs_608, ↓bqs_609, ↓bqs_610, ↓bqt_607, wr_n]
      rw [cq_o (show 593 ≠ 594 by decide), cq_s q1]
    · intro n x A hx ⟨q1, q2, q3⟩
      have e : x = 1067 := by omega
      subst e; subst q3
      show f_X12_image_2 SH0_ 592 (n + 1) _ 1067 = _
      rw [f_X12_image_2, if_neg (by decide)]
      simp (disch := omega) only [↓bqr_C, ↓bqr_D, ↓bqr_N2, ↓bqr_N3, ↓bqr_O, ↓bqr_Q, ↓bqr_W, ↓bqr_S1, ↓bqr_S4, ↓bqr_T2, ↓bqr_T3, ↓bqr_F, ↓bqr_H, ↓bqa_C, ↓bqa_N, ↓bqa_U, ↓bqa_Y, ↓bqa_W, ↓bqa_S, ↓bqgkC_1, ↓bqgkC_2, ↓bqgkC_3, ↓bqgkC_4, ↓bqgkC_5, ↓bqgkC_6, ↓bqgkD_1, ↓bqgkN_0, ↓bqgkN_1, ↓bqgkO_1, ↓bqgkQ_1, ↓bqgkW_1, ↓bqgkS_0, ↓bqgkS_2, ↓bqgkS_3, ↓bqgkT_0, ↓bqgkT_1, ↓bqgkF_1, ↓bqgkH_1, ↓bqgkU_0, ↓bqgkU_1, ↓bqgkU_2, ↓bqgkU_3, ↓bqgkU_4, ↓bqgkY_0, ↓bqgkY_1, ↓bqgkY_2, ↓bqikE_, ↓bqikP_, ↓bqikR_, ↓bqikX_, ↓bqikG_, ↓bqikI_, ↓bqikJ_, ↓bqvkC_, ↓bqvkD_, ↓bqvkN_, ↓bqvkO_, ↓bqvkQ_, ↓bqvkU_, ↓bqvkY_, ↓bqvkW_, ↓bqvkS_, ↓bqvkT_, ↓bqvkF_, ↓bqvkH_, ↓bqr_0_0, ↓bqr_0_1, ↓bqr_0_3, ↓bqr_0_4, ↓bqr_0_5, ↓bqr_0_6, ↓bqr_0_7, ↓bqr_0_8, ↓bqr_1_0, ↓bqr_1_1, ↓bqr_1_2, ↓bqr_1_3, ↓bqr_1_5, ↓bqr_1_8, ↓bqr_1_10, ↓bqr_1_12, ↓bqr_1_13, ↓bqr_518_0, ↓bqr_518_1, ↓bqr_518_2, ↓bqr_518_6, ↓bqr_518_7, ↓bqr_524_0, ↓bqr_524_2, ↓bqr_524_4, ↓bqr_528_0, ↓bqr_528_1, ↓bqr_531_0, ↓bqr_531_1, ↓bqr_531_3, ↓bqr_592_0, ↓bqr_592_1, ↓bqr_592_2, ↓bqr_592_3, ↓bqr_592_4, ↓bqr_592_5, ↓bqr_592_6, ↓bqr_592_7, ↓bqr_592_11, ↓bqr_592_12, ↓bqr_592_13, ↓bqr_592_17, ↓bqr_592_18, ↓bqr_592_19, ↓bqr_592_23, ↓bqr_592_26, ↓bqr_592_27, ↓bqr_592_28, ↓bqg_0_2, ↓bqg_1_4, ↓bqg_1_6, ↓bqg_1_7, ↓bqg_1_9, ↓bqg_1_11, ↓bqg_1_14, ↓bqg_518_3, ↓bqg_518_4, ↓bqg_518_5, ↓bqg_518_8, ↓bqg_518_9, ↓bqg_524_1, ↓bqg_524_3, ↓bqg_528_2, ↓bqg_528_3, ↓bqg_531_2, ↓bqg_535_0, ↓bqg_535_1, ↓bqg_535_2, ↓bqg_535_3, ↓bqg_535_4, ↓bqg_592_8, ↓bqg_592_9, ↓bqg_592_10, ↓bqg_592_14, ↓bqg_592_15, ↓bqg_592_16, ↓bqg_592_20, ↓bqg_592_21, ↓bqg_592_22, ↓bqg_592_24, ↓bqg_592_25, ↓bqg_592_29, ↓bqg_592_30, ↓bqg_592_31, ↓bqg_592_32, ↓bqv_0, ↓bqv_1, ↓bqv_259, ↓bqv_518, ↓bqv_524, ↓bqv_528, ↓bqv_531, ↓bqv_535, ↓bqv_592, ↓bqi_2, ↓bqi_3, ↓bqi_4, ↓bqi_10, ↓bqi_519, ↓bqi_520, ↓bqi_521, ↓bqi_522, ↓bqi_523, ↓bqi_525, ↓bqi_526, ↓bqi_527, ↓bqi_529, ↓bqi_530, ↓bqi_532, ↓bqi_533, ↓bqi_534, ↓bqi_593, ↓bqi_594, ↓bqi_595, ↓bqi_596, ↓bqi_597, ↓bqi_598, ↓bqi_599, ↓bqi_600, ↓bqi_601, ↓bqi_602, ↓bqi_603, ↓bqi_604, ↓bqi_605, ↓bqi_606, ↓bqi_608, ↓bqi_609, ↓bqi_610, ↓bqz_607, ↓Option.bind_some, ↓bc_isIn, ↓bm_isIn, ↓bm_isShelf, i01, i10, j01, if_true, if_false, not_true_eq_false, not_false_eq_true, and_true, true_and, and_self, false_and, and_false, ↓reduceIte, Int.reduceEq, Int.reduceLT, Int.reduceLE, Int.reduceNeg, Int.reduceAdd, Int.reduceSub, Int.reduceMul, Int.reduceNe, Int.reduceToNat, Nat.reduceAdd, Nat.reduceMul, Nat.reduceEqDiff, ↓bqpkC_1, ↓bqpkC_2, ↓bqpkC_3, ↓bqpkC_4, ↓bqpkC_5, ↓bqpkC_6, ↓bqpkD_1, ↓bqpkN_0, ↓bqpkN_1, ↓bqpkO_1, ↓bqpkQ_1, ↓bqpkW_1, ↓bqpkS_0, ↓bqpkS_2, ↓bqpkS_3, ↓bqpkT_0, ↓bqpkT_1, ↓bqpkF_1, ↓bqpkH_1, ↓bqpkU_0, ↓bqpkU_1, ↓bqpkU_2, ↓bqpkU_3, ↓bqpkU_4, ↓bqpkY_0, ↓bqpkY_1, ↓bqpkY_2, ↓bqskE_, ↓bqskP_, ↓bqskR_, ↓bqskX_, ↓bqskG_, ↓bqskI_, ↓bqskJ_, ↓bqp_0_2, ↓bqp_1_4, ↓bqp_1_6, ↓bqp_1_7, ↓bqp_1_9, ↓bqp_1_11, ↓bqp_1_14, ↓bqp_518_3, ↓bqp_518_4, ↓bqp_518_5, ↓bqp_518_8, ↓bqp_518_9, ↓bqp_524_1, ↓bqp_524_3, ↓bqp_528_2, ↓bqp_528_3, ↓bqp_531_2, ↓bqp_535_0, ↓bqp_535_1, ↓bqp_535_2, ↓bqp_535_3, ↓bqp_535_4, ↓bqp_592_8, ↓bqp_592_9, ↓bqp_592_10, ↓bqp_592_14, ↓bqp_592_15, ↓bqp_592_16, ↓bqp_592_20, ↓bqp_592_21, ↓bqp_592_22, ↓bqp_592_24, ↓bqp_592_25, ↓bqp_592_29, ↓bqp_592_30, ↓bqp_592_31, ↓bqp_592_32, ↓bqs_2, ↓bqs_3, ↓bqs_4, ↓bqs_10, ↓bqs_519, ↓bqs_520, ↓bqs_521, ↓bqs_522, ↓bqs_523, ↓bqs_525, ↓bqs_526, ↓bqs_527, ↓bqs_529, ↓bqs_530, ↓bqs_532, ↓bqs_533, ↓bqs_534, ↓bqs_593, ↓bqs_594, ↓bqs_595, ↓bqs_596, ↓bqs_597, ↓bqs_598, ↓bqs_599, ↓bqs_600, ↓bqs_601, ↓bqs_602, ↓bqs_603, ↓bqs_604, ↓bqs_605, ↓bqs_606, ↓bqs_608, ↓bqs_609, ↓bqs_610, ↓bqt_607, or_true]
      rw [st_o2 (by decide), cq_o (by decide), C593]
  · have oD : ∀ a, a ≠ 0 ∧ a ≠ 592 ∧ a ≠ 594 → st_m (cq_ C 593 594 1067) 592 8 1 a = N a := fun a q => by rw [st_o2 q.2.1, cq_o q.2.2, oC a q.1]
    have oM : ∀ a, a ≠ 0 ∧ a ≠ 592 ∧ a ≠ 594 ∧ ¬ (259 ≤ a ∧ a < 517) → st_m (cq_ C 593 594 1067) 592 8 1 a = M a := fun a q => by rw [oD a (by omega), n2 a (by omega)]
    unfold R_
    rw [st_e, show st_m (cq_ C 593 594 1067) 592 8 1 0 2 = 1 by rw [st_o2 (by decide), cq_o (by decide), ← hC, st_e], oM 529 (by omega)]
    refine ⟨RelB_same (v := M 593) (oM 593 (by omega)) (fun a q1 q2 => oM a (by omega)) r1, ⟨rfl, Or.inr rfl⟩, fun _ => ?_, fun d q1 q2 => Rshelf_s2 q1 q2 (fun a p => oM a (by omega)) (r5 d q1 q2), r6⟩
    · refine RelB_same (M := N) (v := cq_ C 593 594 1067 594) (by rw [st_o2 (by decide)]) (fun a q1 q2 => oD a (by omega)) ?_
      exact RelB_w (fun k hk => by rw [cq_i (by omega), C593]) n3
theorem sim31 : sim_31 R_ := by
  intro M hM hR
  obtain ⟨r1, ⟨r2, r3⟩, r4, r5, r6⟩ := hR
  have hR : R_ M := ⟨r1, ⟨r2, r3⟩, r4, r5, r6⟩
  unfold f_X11_restore f_X12_restore
  rcases r3 with h0 | h0
  · have h8 : M 592 8 = 0 := by rw [← r2, h0]
    refine ⟨-3, M, M, ?_, ?_, hR⟩
    · simp (disch := omega) only [↓bqr_C, ↓bqr_D, ↓bqr_N2, ↓bqr_N3, ↓bqr_O, ↓bqr_Q, ↓bqr_W, ↓bqr_S1, ↓bqr_S4, ↓bqr_T2, ↓bqr_T3, ↓bqr_F, ↓bqr_H, ↓bqa_C, ↓bqa_N, ↓bqa_U, ↓bqa_Y, ↓bqa_W, ↓bqa_S, ↓bqgkC_1, ↓bqgkC_2, ↓bqgkC_3, ↓bqgkC_4, ↓bqgkC_5, ↓bqgkC_6, ↓bqgkD_1, ↓bqgkN_0, ↓bqgkN_1, ↓bqgkO_1, ↓bqgkQ_1, ↓bqgkW_1, ↓bqgkS_0, ↓bqgkS_2, ↓bqgkS_3, ↓bqgkT_0, ↓bqgkT_1, ↓bqgkF_1, ↓bqgkH_1, ↓bqgkU_0, ↓bqgkU_1, ↓bqgkU_2, ↓bqgkU_3, ↓bqgkU_4, ↓bqgkY_0, ↓bqgkY_1, ↓bqgkY_2, ↓bqikE_, ↓bqikP_, ↓bqikR_, ↓bqikX_, ↓bqikG_, ↓bqikI_, ↓bqikJ_, ↓bqvkC_, ↓bqvkD_, ↓bqvkN_, ↓bqvkO_, ↓bqvkQ_, ↓bqvkU_, ↓bqvkY_, ↓bqvkW_, ↓bqvkS_, ↓bqvkT_, ↓bqvkF_, ↓bqvkH_, ↓bqr_0_0, ↓bqr_0_1, ↓bqr_0_3, ↓bqr_0_4, ↓bqr_0_5, ↓bqr_0_6, ↓bqr_0_7, ↓bqr_0_8, ↓bqr_1_0, ↓bqr_1_1, ↓bqr_1_2, ↓bqr_1_3, ↓bqr_1_5, ↓bqr_1_8, ↓bqr_1_10, ↓bqr_1_12, ↓bqr_1_13, ↓bqr_518_0, ↓bqr_518_1, ↓bqr_518_2, ↓bqr_518_6, ↓bqr_518_7, ↓bqr_524_0, ↓bqr_524_2, ↓bqr_524_4, ↓bqr_528_0, ↓bqr_528_1, ↓bqr_531_0, ↓bqr_531_1, ↓bqr_531_3, ↓bqr_592_0, ↓bqr_592_1, ↓bqr_592_2, ↓bqr_592_3, ↓bqr_592_4, ↓bqr_592_5, ↓bqr_592_6, ↓bqr_592_7, ↓bqr_592_11, ↓bqr_592_12, ↓bqr_592_13, ↓bqr_592_17, ↓bqr_592_18, ↓bqr_592_19, ↓bqr_592_23, ↓bqr_592_26, ↓bqr_592_27, ↓bqr_592_28, ↓bqg_0_2, ↓bqg_1_4, ↓bqg_1_6, ↓bqg_1_7, ↓bqg_1_9, ↓bqg_1_11, ↓bqg_1_14, ↓bqg_518_3, ↓bqg_518_4, ↓bqg_518_5, ↓bqg_518_8, ↓bqg_518_9, ↓bqg_524_1, ↓bqg_524_3, ↓bqg_528_2, ↓bqg_528_3, ↓bqg_531_2, ↓bqg_535_0, ↓bqg_535_1, ↓bqg_535_2, ↓bqg_535_3, ↓bqg_535_4, ↓bqg_592_8, ↓bqg_592_9, ↓bqg_592_10, ↓bqg_592_14, ↓bqg_592_15, ↓bqg_592_16, ↓bqg_592_20, ↓bqg_592_21, ↓bqg_592_22, ↓bqg_592_24, ↓bqg_592_25, ↓bqg_592_29, ↓bqg_592_30, ↓bqg_592_31, ↓bqg_592_32, ↓bqv_0, ↓bqv_1, ↓bqv_259, ↓bqv_518, ↓bqv_524, ↓bqv_528, ↓bqv_531, ↓bqv_535, ↓bqv_592, ↓bqi_2, ↓bqi_3, ↓bqi_4, ↓bqi_10, ↓bqi_519, ↓bqi_520, ↓bqi_521, ↓bqi_522, ↓bqi_523, ↓bqi_525, ↓bqi_526, ↓bqi_527, ↓bqi_529, ↓bqi_530, ↓bqi_532, ↓bqi_533, ↓bqi_534, ↓bqi_593, ↓bqi_594, ↓bqi_595, ↓bqi_596, ↓bqi_597, ↓bqi_598, ↓bqi_599, ↓bqi_600, ↓bqi_601, ↓bqi_602, ↓bqi_603, ↓bqi_604, ↓bqi_605, ↓bqi_606, ↓bqi_608, ↓bqi_609, ↓bqi_610, ↓bqz_607, ↓Option.bind_some, ↓bc_isIn, ↓bm_isIn, ↓bm_isShelf, i01, i10, j01, if_true, if_false, not_true_eq_false, not_false_eq_true, and_true, true_and, and_self, false_and, and_false, ↓reduceIte, Int.reduceEq, Int.reduceLT, Int.reduceLE, Int.reduceNeg, Int.reduceAdd, Int.reduceSub, Int.reduceMul, Int.reduceNe, Int.reduceToNat, Nat.reduceAdd, Nat.reduceMul, Nat.reduceEqDiff, h0]
    · simp (disch := omega) only [↓bqr_C, ↓bqr_D, ↓bqr_N2, ↓bqr_N3, ↓bqr_O, ↓bqr_Q, ↓bqr_W, ↓bqr_S1, ↓bqr_S4, ↓bqr_T2, ↓bqr_T3, ↓bqr_F, ↓bqr_H, ↓bqa_C, ↓bqa_N, ↓bqa_U, ↓bqa_Y, ↓bqa_W, ↓bqa_S, ↓bqgkC_1, ↓bqgkC_2, ↓bqgkC_3, ↓bqgkC_4, ↓bqgkC_5, ↓bqgkC_6, ↓bqgkD_1, ↓bqgkN_0, ↓bqgkN_1, ↓bqgkO_1, ↓bqgkQ_1, ↓bqgkW_1, ↓bqgkS_0, ↓bqgkS_2, ↓bqgkS_3, ↓bqgkT_0, ↓bqgkT_1, ↓bqgkF_1, ↓bqgkH_1, ↓bqgkU_0, ↓bqgkU_1, ↓bqgkU_2, ↓bqgkU_3, ↓bqgkU_4, ↓bqgkY_0, ↓bqgkY_1, ↓bqgkY_2, ↓bqikE_, ↓bqikP_, ↓bqikR_, ↓bqikX_, ↓bqikG_, ↓bqikI_, ↓bqikJ_, ↓bqvkC_, ↓bqvkD_, ↓bqvkN_, ↓bqvkO_, ↓bqvkQ_, ↓bqvkU_, ↓bqvkY_, ↓bqvkW_, ↓bqvkS_, ↓bqvkT_, ↓bqvkF_, ↓bqvkH_, ↓bqr_0_0, ↓bqr_0_1, ↓bqr_0_3, ↓bqr_0_4, ↓bqr_0_5, ↓bqr_0_6, ↓bqr_0_7, ↓bqr_0_8, ↓bqr_1_0, ↓bqr_1_1, ↓bqr_1_2, ↓bqr_1_3, ↓bqr_1_5, ↓bqr_1_8, ↓bqr_1_10, ↓bqr_1_12, ↓bqr_1_13, ↓bqr_518_0, ↓bqr_518_1, ↓bqr_518_2, ↓bqr_518_6, ↓bqr_518_7, ↓bqr_524_0, ↓bqr_524_2, ↓bqr_524_4, ↓bqr_528_0, ↓bqr_528_1, ↓bqr_531_0, ↓bqr_531_1, ↓bqr_531_3, ↓bqr_592_0, ↓bqr_592_1, ↓bqr_592_2, ↓bqr_592_3, ↓bqr_592_4, ↓bqr_592_5, ↓bqr_592_6, ↓bqr_592_7, ↓bqr_592_11, ↓bqr_592_12, ↓bqr_592_13, ↓bqr_592_17, ↓bqr_592_18, ↓bqr_592_19, ↓bqr_592_23, ↓bqr_592_26, ↓bqr_592_27, ↓bqr_592_28, ↓bqg_0_2, ↓bqg_1_4, ↓bqg_1_6, ↓bqg_1_7, ↓bqg_1_9, ↓bqg_1_11, ↓bqg_1_14, ↓bqg_518_3, ↓bqg_518_4, ↓bqg_518_5, ↓bqg_518_8, ↓bqg_518_9, ↓bqg_524_1, ↓bqg_524_3, ↓bqg_528_2, ↓bqg_528_3, ↓bqg_531_2, ↓bqg_535_0, ↓bqg_535_1, ↓bqg_535_2, ↓bqg_535_3, ↓bqg_535_4, ↓bqg_592_8, ↓bqg_592_9, ↓bqg_592_10, ↓bqg_592_14, ↓bqg_592_15, ↓bqg_592_16, ↓bqg_592_20, ↓bqg_592_21, ↓bqg_592_22, ↓bqg_592_24, ↓bqg_592_25, ↓bqg_592_29, ↓bqg_592_30, ↓bqg_592_31, ↓bqg_592_32, ↓bqv_0, ↓bqv_1, ↓bqv_259, ↓bqv_518, ↓bqv_524, ↓bqv_528, ↓bqv_531, ↓bqv_535, ↓bqv_592, ↓bqi_2, ↓bqi_3, ↓bqi_4, ↓bqi_10, ↓bqi_519, ↓bqi_520, ↓bqi_521, ↓bqi_522, ↓bqi_523, ↓bqi_525, ↓bqi_526, ↓bqi_527, ↓bqi_529, ↓bqi_530, ↓bqi_532, ↓bqi_533, ↓bqi_534, ↓bqi_593, ↓bqi_594, ↓bqi_595, ↓bqi_596, ↓bqi_597, ↓bqi_598, ↓bqi_599, ↓bqi_600, ↓bqi_601, ↓bqi_602, ↓bqi_603, ↓bqi_604, ↓bqi_605, ↓bqi_606, ↓bqi_608, ↓bqi_609, ↓bqi_610, ↓bqz_607, ↓Option.bind_some, ↓bc_isIn, ↓bm_isIn, ↓bm_isShelf, i01, i10, j01, if_true, if_false, not_true_eq_false, not_false_eq_true, and_true, true_and, and_self, false_and, and_false, ↓reduceIte, Int.reduceEq, Int.reduceLT, Int.reduceLE, Int.reduceNeg, Int.reduceAdd, Int.reduceSub, Int.reduceMul, Int.reduceNe, Int.reduceToNat, Nat.reduceAdd, Nat.reduceMul, Nat.reduceEqDiff, h8]
  · obtain ⟨N, n1, n2, n3⟩ := tk_book (d := 1) (s := 259) (Or.inl rfl) (Or.inr rfl) (by decide) (r4 h0)
    have h8 : M 592 8 = 1 := by rw [← r2, h0]
    have N594 : N 594 = M 594 := n2 594 (by omega)
    have N14 : N 1 4 = M 594 1062 := n3.1.1.2.2.symm
    refine ⟨M 594 1062, N, cq_ N 594 593 1067, ?_, ?_, ?_⟩
    · simp (disch := omega) only [↓bqr_C, ↓bqr_D, ↓bqr_N2, ↓bqr_N3, ↓bqr_O, ↓bqr_Q, ↓bqr_W, ↓bqr_S1, ↓bqr_S4, ↓bqr_T2, ↓bqr_T3, ↓bqr_F, ↓bqr_H, ↓bqa_C, ↓bqa_N, ↓bqa_U, ↓bqa_Y, ↓bqa_W, ↓bqa_S, ↓bqgkC_1, ↓bqgkC_2, ↓bqgkC_3, ↓bqgkC_4, ↓bqgkC_5, ↓bqgkC_6, ↓bqgkD_1, ↓bqgkN_0, ↓bqgkN_1, ↓bqgkO_1, ↓bqgkQ_1, ↓bqgkW_1, ↓bqgkS_0, ↓bqgkS_2, ↓bqgkS_3, ↓bqgkT_0, ↓bqgkT_1, ↓bqgkF_1, ↓bqgkH_1, ↓bqgkU_0, ↓bqgkU_1, ↓bqgkU_2, ↓bqgkU_3, ↓bqgkU_4, ↓bqgkY_0, ↓bqgkY_1, ↓bqgkY_2, ↓bqikE_, ↓bqikP_, ↓bqikR_, ↓bqikX_, ↓bqikG_, ↓bqikI_, ↓bqikJ_, ↓bqvkC_, ↓bqvkD_, ↓bqvkN_, ↓bqvkO_, ↓bqvkQ_, ↓bqvkU_, ↓bqvkY_, ↓bqvkW_, ↓bqvkS_, ↓bqvkT_, ↓bqvkF_, ↓bqvkH_, ↓bqr_0_0, ↓bqr_0_1, ↓bqr_0_3, ↓bqr_0_4, ↓bqr_0_5, ↓bqr_0_6, ↓bqr_0_7, ↓bqr_0_8, ↓bqr_1_0, ↓bqr_1_1, ↓bqr_1_2, ↓bqr_1_3, ↓bqr_1_5, ↓bqr_1_8, ↓bqr_1_10, ↓bqr_1_12, ↓bqr_1_13, ↓bqr_518_0, ↓bqr_518_1, ↓bqr_518_2, ↓bqr_518_6, ↓bqr_518_7, ↓bqr_524_0, ↓bqr_524_2, ↓bqr_524_4, ↓bqr_528_0, ↓bqr_528_1, ↓bqr_531_0, ↓bqr_531_1, ↓bqr_531_3, ↓bqr_592_0, ↓bqr_592_1, ↓bqr_592_2, ↓bqr_592_3, ↓bqr_592_4, ↓bqr_592_5, ↓bqr_592_6, ↓bqr_592_7, ↓bqr_592_11, ↓bqr_592_12, ↓bqr_592_13, ↓bqr_592_17, ↓bqr_592_18, ↓bqr_592_19, ↓bqr_592_23, ↓bqr_592_26, ↓bqr_592_27, ↓bqr_592_28, ↓bqg_0_2, ↓bqg_1_4, ↓bqg_1_6, ↓bqg_1_7, ↓bqg_1_9, ↓bqg_1_11, ↓bqg_1_14, ↓bqg_518_3, ↓bqg_518_4, ↓bqg_518_5, ↓bqg_518_8, ↓bqg_518_9, ↓bqg_524_1, ↓bqg_524_3, ↓bqg_528_2, ↓bqg_528_3, ↓bqg_531_2, ↓bqg_535_0, ↓bqg_535_1, ↓bqg_535_2, ↓bqg_535_3, ↓bqg_535_4, ↓bqg_592_8, ↓bqg_592_9, ↓bqg_592_10, ↓bqg_592_14, ↓bqg_592_15, ↓bqg_592_16, ↓bqg_592_20, ↓bqg_592_21, ↓bqg_592_22, ↓bqg_592_24, ↓bqg_592_25, ↓bqg_592_29, ↓bqg_592_30, ↓bqg_592_31, ↓bqg_592_32, ↓bqv_0, ↓bqv_1, ↓bqv_259, ↓bqv_518, ↓bqv_524, ↓bqv_528, ↓bqv_531, ↓bqv_535, ↓bqv_592, ↓bqi_2, ↓bqi_3, ↓bqi_4, ↓bqi_10, ↓bqi_519, ↓bqi_520, ↓bqi_521, ↓bqi_522, ↓bqi_523, ↓bqi_525, ↓bqi_526, ↓bqi_527, ↓bqi_529, ↓bqi_530, ↓bqi_532, ↓bqi_533, ↓bqi_534, ↓bqi_593, ↓bqi_594, ↓bqi_595, ↓bqi_596, ↓bqi_597, ↓bqi_598, ↓bqi_599, ↓bqi_600, ↓bqi_601, ↓bqi_602, ↓bqi_603, ↓bqi_604, ↓bqi_605, ↓bqi_606, ↓bqi_608, ↓bqi_609, ↓bqi_610, ↓bqz_607, ↓Option.bind_some, ↓bc_isIn, ↓bm_isIn, ↓bm_isShelf, i01, i10, j01, if_true, if_false, not_true_eq_false, not_false_eq_true, and_true, true_and, and_self, false_and, and_false, ↓reduceIte, Int.reduceEq, Int.reduceLT, Int.reduceLE, Int.reduceNeg, Int.reduceAdd, Int.reduceSub, Int.reduceMul, Int.reduceNe, Int.reduceToNat, Nat.reduceAdd, Nat.reduceMul, Nat.reduceEqDiff, ↓bqpkC_1, ↓bqpkC_2, ↓bqpkC_3, ↓bqpkC_4, ↓bqpkC_5, ↓bqpkC_6, ↓bqpkD_1, ↓bqpkN_0, ↓bqpkN_1, ↓bqpkO_1, ↓bqpkQ_1, ↓bqpkW_1, ↓bqpkS_0, ↓bqpkS_2, ↓bqpkS_3, ↓bqpkT_0, ↓bqpkT_1, ↓bqpkF_1, ↓bqpkH_1, ↓bqpkU_0, ↓bqpkU_1, ↓bqpkU_2, ↓bqpkU_3, ↓bqpkU_4, ↓bqpkY_0, ↓bqpkY_1, ↓bqpkY_2, ↓bqskE_, ↓bqskP_, ↓bqskR_, ↓bqskX_, ↓bqskG_, ↓bqskI_, ↓bqskJ_, ↓bqp_0_2, ↓bqp_1_4, ↓bqp_1_6, ↓bqp_1_7, ↓bqp_1_9, ↓bqp_1_11, ↓bqp_1_14, ↓bqp_518_3, ↓bqp_518_4, ↓bqp_518_5, ↓bqp_518_8, ↓bqp_518_9, ↓bqp_524_1, ↓bqp_524_3, ↓bqp_528_2, ↓bqp_528_3, ↓bqp_531_2, ↓bqp_535_0, ↓bqp_535_1, ↓bqp_535_2, ↓bqp_535_3, ↓bqp_535_4, ↓bqp_592_8, ↓bqp_592_9, ↓bqp_592_10, ↓bqp_592_14, ↓bqp_592_15, ↓bqp_592_16, ↓bqp_592_20, ↓bqp_592_21, ↓bqp_592_22, ↓bqp_592_24, ↓bqp_592_25, ↓bqp_592_29, ↓bqp_592_30, ↓bqp_592_31, ↓bqp_592_32, ↓bqs_2, ↓bqs_3, ↓bqs_4, ↓bqs_10, ↓bqs_519, ↓bqs_520, ↓bqs_521, ↓bqs_522, ↓bqs_523, ↓bqs_525, ↓bqs_526, ↓bqs_527, ↓bqs_529, ↓bqs_530, ↓bqs_532, ↓bqs_533, ↓bqs_534, ↓bqs_593, ↓bqs_594, ↓bqs_595, ↓bqs_596, ↓bqs_597, ↓bqs_598, ↓bqs_599, ↓bqs_600, ↓bqs_601, ↓bqs_602, ↓bqs_603, ↓bqs_604, ↓bqs_605, ↓bqs_606, ↓bqs_608, ↓bqs_609, ↓bqs_610, ↓bqt_607, h0, n1, N14]
    · have N8 : N 592 8 = 1 := by rw [n2 592 (by omega), h8]
      simp (disch := omega) only [↓bqr_C, ↓bqr_D, ↓bqr_N2, ↓bqr_N3, ↓bqr_O, ↓bqr_Q, ↓bqr_W, ↓bqr_S1, ↓bqr_S4, ↓bqr_T2, ↓bqr_T3, ↓bqr_F, ↓bqr_H, ↓bqa_C, ↓bqa_N, ↓bqa_U, ↓bqa_Y, ↓bqa_W, ↓bqa_S, ↓bqgkC_1, ↓bqgkC_2, ↓bqgkC_3, ↓bqgkC_4, ↓bqgkC_5, ↓bqgkC_6, ↓bqgkD_1, ↓bqgkN_0, ↓bqgkN_1, ↓bqgkO_1, ↓bqgkQ_1, ↓bqgkW_1, ↓bqgkS_0, ↓bqgkS_2, ↓bqgkS_3, ↓bqgkT_0, ↓bqgkT_1, ↓bqgkF_1, ↓bqgkH_1, ↓bqgkU_0, ↓bqgkU_1, ↓bqgkU_2, ↓bqgkU_3, ↓bqgkU_4, ↓bqgkY_0, ↓bqgkY_1, ↓bqgkY_2, ↓bqikE_, ↓bqikP_, ↓bqikR_, ↓bqikX_, ↓bqikG_, ↓bqikI_, ↓bqikJ_, ↓bqvkC_, ↓bqvkD_, ↓bqvkN_, ↓bqvkO_, ↓bqvkQ_, ↓bqvkU_, ↓bqvkY_, ↓bqvkW_, ↓bqvkS_, ↓bqvkT_, ↓bqvkF_, ↓bqvkH_, ↓bqr_0_0, ↓bqr_0_1, ↓bqr_0_3, ↓bqr_0_4, ↓bqr_0_5, ↓bqr_0_6, ↓bqr_0_7, ↓bqr_0_8, ↓bqr_1_0, ↓bqr_1_1, ↓bqr_1_2, ↓bqr_1_3, ↓bqr_1_5, ↓bqr_1_8, ↓bqr_1_10, ↓bqr_1_12, ↓bqr_1_13, ↓bqr_518_0, ↓bqr_518_1, ↓bqr_518_2, ↓bqr_518_6, ↓bqr_518_7, ↓bqr_524_0, ↓bqr_524_2, ↓bqr_524_4, ↓bqr_528_0, ↓bqr_528_1, ↓bqr_531_0, ↓bqr_531_1, ↓bqr_531_3, ↓bqr_592_0, ↓bqr_592_1, ↓bqr_592_2, ↓bqr_592_3, ↓bqr_592_4, ↓bqr_592_5, ↓bqr_592_6, ↓bqr_592_7, ↓bqr_592_11, ↓bqr_592_12, ↓bqr_592_13, ↓bqr_592_17, ↓bqr_592_18, ↓bqr_592_19, ↓bqr_592_23, ↓bqr_592_26, ↓bqr_592_27, ↓bqr_592_28, ↓bqg_0_2, ↓bqg_1_4, ↓bqg_1_6, ↓bqg_1_7, ↓bqg_1_9, ↓bqg_1_11, ↓bqg_1_14, ↓bqg_518_3, ↓bqg_518_4, ↓bqg_518_5, ↓bqg_518_8, ↓bqg_518_9, ↓bqg_524_1, ↓bqg_524_3, ↓bqg_528_2, ↓bqg_528_3, ↓bqg_531_2, ↓bqg_535_0, ↓bqg_535_1, ↓bqg_535_2, ↓bqg_535_3, ↓bqg_535_4, ↓bqg_592_8, ↓bqg_592_9, ↓bqg_592_10, ↓bqg_592_14, ↓bqg_592_15, ↓bqg_592_16, ↓bqg_592_20, ↓bqg_592_21, ↓bqg_592_22, ↓bqg_592_24, ↓bqg_592_25, ↓bqg_592_29, ↓bqg_592_30, ↓bqg_592_31, ↓bqg_592_32, ↓bqv_0, ↓bqv_1, ↓bqv_259, ↓bqv_518, ↓bqv_524, ↓bqv_528, ↓bqv_531, ↓bqv_535, ↓bqv_592, ↓bqi_2, ↓bqi_3, ↓bqi_4, ↓bqi_10, ↓bqi_519, ↓bqi_520, ↓bqi_521, ↓bqi_522, ↓bqi_523, ↓bqi_525, ↓bqi_526, ↓bqi_527, ↓bqi_529, ↓bqi_530, ↓bqi_532, ↓bqi_533, ↓bqi_534, ↓bqi_593, ↓bqi_594, ↓bqi_595, ↓bqi_596, ↓bqi_597, ↓bqi_598, ↓bqi_599, ↓bqi_600, ↓bqi_601, ↓bqi_602, ↓bqi_603, ↓bqi_604, ↓bqi_605, ↓bqi_606, ↓bqi_608, ↓bqi_609, ↓bqi_610, ↓bqz_607, ↓Option.bind_some, ↓bc_isIn, ↓bm_isIn, ↓bm_isShelf, i01, i10, j01, if_true, if_false, not_true_eq_false, not_false_eq_true, and_true, true_and, and_self, false_and, and_false, ↓reduceIte, Int.reduceEq, Int.reduceLT, Int.reduceLE, Int.reduceNeg, Int.reduceAdd, Int.reduceSub, Int.reduceMul, Int.reduceNe, Int.reduceToNat, Nat.reduceAdd, Nat.reduceMul, Nat.reduceEqDiff, N8]
      refine lp_run (A := Mem_m) (fun n x M => f_X12_restore_12 SH0_ 592 n M x) 1067 (fun x A => 0 ≤ x ∧ x ≤ 1067 ∧ A = cq_ N 594 593 x) (fun o => o = some (cq_ N 594 593 1067, M 594 1062)) ?_ ?_ FU_ 0 N (by unfold FU_; omega) ⟨by omega, by omega, cq_0.symm⟩
      · intro n x A hx ⟨q1, q2, q3⟩
        refine Or.inl ⟨cq_ N 594 593 (x + 1), ?_, by omega, by omega, rfl⟩
        subst q3
        show f_X12_restore_12 SH0_ 592 (n + 1) _ x = _
        rw [f_X12_restore_12, if_pos hx]
        simp (disch := omega) only [↓bqr_C, ↓bqr_D, ↓bqr_N2, ↓bqr_N3, ↓bqr_O, ↓bqr_Q, ↓bqr_W, ↓bqr_S1, ↓bqr_S4, ↓bqr_T2, ↓bqr_T3, ↓bqr_F, ↓bqr_H, ↓bqa_C, ↓bqa_N, ↓bqa_U, ↓bqa_Y, ↓bqa_W, ↓bqa_S, ↓bqgkC_1, ↓bqgkC_2, ↓bqgkC_3, ↓bqgkC_4, ↓bqgkC_5, ↓bqgkC_6, ↓bqgkD_1, ↓bqgkN_0, ↓bqgkN_1, ↓bqgkO_1, ↓bqgkQ_1, ↓bqgkW_1, ↓bqgkS_0, ↓bqgkS_2, ↓bqgkS_3, ↓bqgkT_0, ↓bqgkT_1, ↓bqgkF_1, ↓bqgkH_1, ↓bqgkU_0, ↓bqgkU_1, ↓bqgkU_2, ↓bqgkU_3, ↓bqgkU_4, ↓bqgkY_0, ↓bqgkY_1, ↓bqgkY_2, ↓bqikE_, ↓bqikP_, ↓bqikR_, ↓bqikX_, ↓bqikG_, ↓bqikI_, ↓bqikJ_, ↓bqvkC_, ↓bqvkD_, ↓bqvkN_, ↓bqvkO_, ↓bqvkQ_, ↓bqvkU_, ↓bqvkY_, ↓bqvkW_, ↓bqvkS_, ↓bqvkT_, ↓bqvkF_, ↓bqvkH_, ↓bqr_0_0, ↓bqr_0_1, ↓bqr_0_3, ↓bqr_0_4, ↓bqr_0_5, ↓bqr_0_6, ↓bqr_0_7, ↓bqr_0_8, ↓bqr_1_0, ↓bqr_1_1, ↓bqr_1_2, ↓bqr_1_3, ↓bqr_1_5, ↓bqr_1_8, ↓bqr_1_10, ↓bqr_1_12, ↓bqr_1_13, ↓bqr_518_0, ↓bqr_518_1, ↓bqr_518_2, ↓bqr_518_6, ↓bqr_518_7, ↓bqr_524_0, ↓bqr_524_2, ↓bqr_524_4, ↓bqr_528_0, ↓bqr_528_1, ↓bqr_531_0, ↓bqr_531_1, ↓bqr_531_3, ↓bqr_592_0, ↓bqr_592_1, ↓bqr_592_2, ↓bqr_592_3, ↓bqr_592_4, ↓bqr_592_5, ↓bqr_592_6, ↓bqr_592_7, ↓bqr_592_11, ↓bqr_592_12, ↓bqr_592_13, ↓bqr_592_17, ↓bqr_592_18, ↓bqr_592_19, ↓bqr_592_23, ↓bqr_592_26, ↓bqr_592_27, ↓bqr_592_28, ↓bqg_0_2, ↓bqg_1_4, ↓bqg_1_6, ↓bqg_1_7, ↓bqg_1_9, ↓bqg_1_11, ↓bqg_1_14, ↓bqg_518_3, ↓bqg_518_4, ↓bqg_518_5, ↓bqg_518_8, ↓bqg_518_9, ↓bqg_524_1, ↓bqg_524_3, ↓bqg_528_2, ↓bqg_528_3, ↓bqg_531_2, ↓bqg_535_0, ↓bqg_535_1, ↓bqg_535_2, ↓bqg_535_3, ↓bqg_535_4, ↓bqg_592_8, ↓bqg_592_9, ↓bqg_592_10, ↓bqg_592_14, ↓bqg_592_15, ↓bqg_592_16, ↓bqg_592_20, ↓bqg_592_21, ↓bqg_592_22, ↓bqg_592_24, ↓bqg_592_25, ↓bqg_592_29, ↓bqg_592_30, ↓bqg_592_31, ↓bqg_592_32, ↓bqv_0, ↓bqv_1, ↓bqv_259, ↓bqv_518, ↓bqv_524, ↓bqv_528, ↓bqv_531, ↓bqv_535, ↓bqv_592, ↓bqi_2, ↓bqi_3, ↓bqi_4, ↓bqi_10, ↓bqi_519, ↓bqi_520, ↓bqi_521, ↓bqi_522, ↓bqi_523, ↓bqi_525, ↓bqi_526, ↓bqi_527, ↓bqi_529, ↓bqi_530, ↓bqi_532, ↓bqi_533, ↓bqi_534, ↓bqi_593, ↓bqi_594, ↓bqi_595, ↓bqi_596, ↓bqi_597, ↓bqi_598, ↓bqi_599, ↓bqi_600, ↓bqi_601, ↓bqi_602, ↓bqi_603, ↓bqi_604, ↓bqi_605, ↓bqi_606, ↓bqi_608, ↓bqi_609, ↓bqi_610, ↓bqz_607, ↓Option.bind_some, ↓bc_isIn, ↓bm_isIn, ↓bm_isShelf, i01, i10, j01, if_true, if_false, not_true_eq_false, not_false_eq_true, and_true, true_and, and_self, false_and, and_false, ↓reduceIte, Int.reduceEq, Int.reduceLT, Int.reduceLE, Int.reduceNeg, Int.reduceAdd, Int.reduceSub, Int.reduceMul, Int.reduceNe, Int.reduceToNat, Nat.reduceAdd, Nat.reduceMul, Nat.reduceEqDiff, ↓bqpkC_1, ↓bqpkC_2, ↓bqpkC_3, ↓bqpkC_4, ↓bqpkC_5, ↓bqpkC_6, ↓bqpkD_1, ↓bqpkN_0, ↓bqpkN_1, ↓bqpkO_1, ↓bqpkQ_1, ↓bqpkW_1, ↓bqpkS_0, ↓bqpkS_2, ↓bqpkS_3, ↓bqpkT_0, ↓bqpkT_1, ↓bqpkF_1, ↓bqpkH_1, ↓bqpkU_0, ↓bqpkU_1, ↓bqpkU_2, ↓bqpkU_3, ↓bqpkU_4, ↓bqpkY_0, ↓bqpkY_1, ↓bqpkY_2, ↓bqskE_, ↓bqskP_, ↓bqskR_, ↓bqskX_, ↓bqskG_, ↓bqskI_, ↓bqskJ_, ↓bqp_0_2, ↓bqp_1_4, ↓bqp_1_6, ↓bqp_1_7, ↓bqp_1_9, ↓bqp_1_11, ↓bqp_1_14, ↓bqp_518_3, ↓bqp_518_4, ↓bqp_518_5, ↓bqp_518_8, ↓bqp_518_9, ↓bqp_524_1, ↓bqp_524_3, ↓bqp_528_2, ↓bqp_528_3, ↓bqp_531_2, ↓bqp_535_0, ↓bqp_535_1, ↓bqp_535_2, ↓bqp_535_3, ↓bqp_535_4, ↓bqp_592_8, ↓bqp_592_9, ↓bqp_592_10, ↓bqp_592_14, ↓bqp_592_15, ↓bqp_592_16, ↓bqp_592_20, ↓bqp_592_21, ↓bqp_592_22, ↓bqp_592_24, ↓bqp_592_25, ↓bqp_592_29, ↓bqp_592_30, ↓bqp_592_31, ↓bqp_592_32, ↓bqs_2, ↓bqs_3, ↓bqs_4, ↓bqs_10, ↓bqs_519, ↓bqs_520, ↓bqs_521, ↓bqs_522, ↓bqs_523, ↓bqs_525, ↓bqs_526, ↓bqs_527, ↓bqs_529, ↓bqs_530, ↓bqs_532, ↓bqs_533, ↓bqs_534, ↓bqs_593, ↓bqs_594, ↓bqs_595, ↓bqs_596, ↓bqs_597, ↓bqs_598, ↓bqs_599, ↓bqs_600, ↓bqs_601, ↓bqs_602, ↓bqs_603, ↓bqs_604, ↓bqs_605, ↓bqs_606, ↓bqs_608, ↓bqs_609, ↓bqs_610, ↓bqt_607, wr_n]
        rw [cq_o (show 594 ≠ 593 by decide), cq_s q1]
      · intro n x A hx ⟨q1, q2, q3⟩
        have e : x = 1067 := by omega
        subst e; subst q3
        show f_X12_restore_12 SH0_ 592 (n + 1) _ 1067 = _
        rw [f_X12_restore_12, if_neg (by decide)]
        simp (disch := omega) only [↓bqr_C, ↓bqr_D, ↓bqr_N2, ↓bqr_N3, ↓bqr_O, ↓bqr_Q, ↓bqr_W, ↓bqr_S1, ↓bqr_S4, ↓bqr_T2, ↓bqr_T3, ↓bqr_F, ↓bqr_H, ↓bqa_C, ↓bqa_N, ↓bqa_U, ↓bqa_Y, ↓bqa_W, ↓bqa_S, ↓bqgkC_1, ↓bqgkC_2, ↓bqgkC_3, ↓bqgkC_4, ↓bqgkC_5, ↓bqgkC_6, ↓bqgkD_1, ↓bqgkN_0, ↓bqgkN_1, ↓bqgkO_1, ↓bqgkQ_1, ↓bqgkW_1, ↓bqgkS_0, ↓bqgkS_2, ↓bqgkS_3, ↓bqgkT_0, ↓bqgkT_1, ↓bqgkF_1, ↓bqgkH_1, ↓bqgkU_0, ↓bqgkU_1, ↓bqgkU_2, ↓bqgkU_3, ↓bqgkU_4, ↓bqgkY_0, ↓bqgkY_1, ↓bqgkY_2, ↓bqikE_, ↓bqikP_, ↓bqikR_, ↓bqikX_, ↓bqikG_, ↓bqikI_, ↓bqikJ_, ↓bqvkC_, ↓bqvkD_, ↓bqvkN_, ↓bqvkO_, ↓bqvkQ_, ↓bqvkU_, ↓bqvkY_, ↓bqvkW_, ↓bqvkS_, ↓bqvkT_, ↓bqvkF_, ↓bqvkH_, ↓bqr_0_0, ↓bqr_0_1, ↓bqr_0_3, ↓bqr_0_4, ↓bqr_0_5, ↓bqr_0_6, ↓bqr_0_7, ↓bqr_0_8, ↓bqr_1_0, ↓bqr_1_1, ↓bqr_1_2, ↓bqr_1_3, ↓bqr_1_5, ↓bqr_1_8, ↓bqr_1_10, ↓bqr_1_12, ↓bqr_1_13, ↓bqr_518_0, ↓bqr_518_1, ↓bqr_518_2, ↓bqr_518_6, ↓bqr_518_7, ↓bqr_524_0, ↓bqr_524_2, ↓bqr_524_4, ↓bqr_528_0, ↓bqr_528_1, ↓bqr_531_0, ↓bqr_531_1, ↓bqr_531_3, ↓bqr_592_0, ↓bqr_592_1, ↓bqr_592_2, ↓bqr_592_3, ↓bqr_592_4, ↓bqr_592_5, ↓bqr_592_6, ↓bqr_592_7, ↓bqr_592_11, ↓bqr_592_12, ↓bqr_592_13, ↓bqr_592_17, ↓bqr_592_18, ↓bqr_592_19, ↓bqr_592_23, ↓bqr_592_26, ↓bqr_592_27, ↓bqr_592_28, ↓bqg_0_2, ↓bqg_1_4, ↓bqg_1_6, ↓bqg_1_7, ↓bqg_1_9, ↓bqg_1_11, ↓bqg_1_14, ↓bqg_518_3, ↓bqg_518_4, ↓bqg_518_5, ↓bqg_518_8, ↓bqg_518_9, ↓bqg_524_1, ↓bqg_524_3, ↓bqg_528_2, ↓bqg_528_3, ↓bqg_531_2, ↓bqg_535_0, ↓bqg_535_1, ↓bqg_535_2, ↓bqg_535_3, ↓bqg_535_4, ↓bqg_592_8, ↓bqg_592_9, ↓bqg_592_10, ↓bqg_592_14, ↓bqg_592_15, ↓bqg_592_16, ↓bqg_592_20, ↓bqg_592_21, ↓bqg_592_22, ↓bqg_592_24, ↓bqg_592_25, ↓bqg_592_29, ↓bqg_592_30, ↓bqg_592_31, ↓bqg_592_32, ↓bqv_0, ↓bqv_1, ↓bqv_259, ↓bqv_518, ↓bqv_524, ↓bqv_528, ↓bqv_531, ↓bqv_535, ↓bqv_592, ↓bqi_2, ↓bqi_3, ↓bqi_4, ↓bqi_10, ↓bqi_519, ↓bqi_520, ↓bqi_521, ↓bqi_522, ↓bqi_523, ↓bqi_525, ↓bqi_526, ↓bqi_527, ↓bqi_529, ↓bqi_530, ↓bqi_532, ↓bqi_533, ↓bqi_534, ↓bqi_593, ↓bqi_594, ↓bqi_595, ↓bqi_596, ↓bqi_597, ↓bqi_598, ↓bqi_599, ↓bqi_600, ↓bqi_601, ↓bqi_602, ↓bqi_603, ↓bqi_604, ↓bqi_605, ↓bqi_606, ↓bqi_608, ↓bqi_609, ↓bqi_610, ↓bqz_607, ↓Option.bind_some, ↓bc_isIn, ↓bm_isIn, ↓bm_isShelf, i01, i10, j01, if_true, if_false, not_true_eq_false, not_false_eq_true, and_true, true_and, and_self, false_and, and_false, ↓reduceIte, Int.reduceEq, Int.reduceLT, Int.reduceLE, Int.reduceNeg, Int.reduceAdd, Int.reduceSub, Int.reduceMul, Int.reduceNe, Int.reduceToNat, Nat.reduceAdd, Nat.reduceMul, Nat.reduceEqDiff, ↓bqpkC_1, ↓bqpkC_2, ↓bqpkC_3, ↓bqpkC_4, ↓bqpkC_5, ↓bqpkC_6, ↓bqpkD_1, ↓bqpkN_0, ↓bqpkN_1, ↓bqpkO_1, ↓bqpkQ_1, ↓bqpkW_1, ↓bqpkS_0, ↓bqpkS_2, ↓bqpkS_3, ↓bqpkT_0, ↓bqpkT_1, ↓bqpkF_1, ↓bqpkH_1, ↓bqpkU_0, ↓bqpkU_1, ↓bqpkU_2, ↓bqpkU_3, ↓bqpkU_4, ↓bqpkY_0, ↓bqpkY_1, ↓bqpkY_2, ↓bqskE_, ↓bqskP_, ↓bqskR_, ↓bqskX_, ↓bqskG_, ↓bqskI_, ↓bqskJ_, ↓bqp_0_2, ↓bqp_1_4, ↓bqp_1_6, ↓bqp_1_7, ↓bqp_1_9, ↓bqp_1_11, ↓bqp_1_14, ↓bqp_518_3, ↓bqp_518_4, ↓bqp_518_5, ↓bqp_518_8, ↓bqp_518_9, ↓bqp_524_1, ↓bqp_524_3, ↓bqp_528_2, ↓bqp_528_3, ↓bqp_531_2, ↓bqp_535_0, ↓bqp_535_1, ↓bqp_535_2, ↓bqp_535_3, ↓bqp_535_4, ↓bqp_592_8, ↓bqp_592_9, ↓bqp_592_10, ↓bqp_592_14, ↓bqp_592_15, ↓bqp_592_16, ↓bqp_592_20, ↓bqp_592_21, ↓bqp_592_22, ↓bqp_592_24, ↓bqp_592_25, ↓bqp_592_29, ↓bqp_592_30, ↓bqp_592_31, ↓bqp_592_32, ↓bqs_2, ↓bqs_3, ↓bqs_4, ↓bqs_10, ↓bqs_519, ↓bqs_520, ↓bqs_521, ↓bqs_522, ↓bqs_523, ↓bqs_525, ↓bqs_526, ↓bqs_527, ↓bqs_529, ↓bqs_530, ↓bqs_532, ↓bqs_533, ↓bqs_534, ↓bqs_593, ↓bqs_594, ↓bqs_595, ↓bqs_596, ↓bqs_597, ↓bqs_598, ↓bqs_599, ↓bqs_600, ↓bqs_601, ↓bqs_602, ↓bqs_603, ↓bqs_604, ↓bqs_605, ↓bqs_606, ↓bqs_608, ↓bqs_609, ↓bqs_610, ↓bqt_607]
        rw [cq_i (by decide), N594]
    · have oN : ∀ a, a ≠ 593 → cq_ N 594 593 1067 a = N a := fun a q => cq_o q
      have oM : ∀ a, a ≠ 593 ∧ ¬ (1 ≤ a ∧ a < 259) → cq_ N 594 593 1067 a = M a := fun a q => by rw [oN a q.1, n2 a (by omega)]
      unfold R_
      rw [oM 0 (by omega), oM 592 (by omega), oM 529 (by omega)]
      refine ⟨?_, ⟨r2, Or.inr h0⟩, fun h => RelB_same (oM 594 (by omega)) (fun a q1 q2 => oM a (by omega)) (r4 h), fun d q1 q2 => Rshelf_s2 q1 q2 (fun a p => oM a (by omega)) (r5 d q1 q2), r6⟩
      refine RelB_same (M := N) (v := cq_ N 594 593 1067 593) rfl (fun a q1 q2 => oN a (by omega)) ?_
      exact RelB_w (fun k hk => by rw [cq_i (by omega), N594]) n3
