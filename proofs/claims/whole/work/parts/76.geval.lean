/-! reading the things of a book -/
theorem e_cards {b : Nat} (h : bk_ b) : gR_ SH0_ b 0 3 = some (b + 4) := by rcases h with rfl | rfl <;> rfl
theorem e_notes {b : Nat} (h : bk_ b) : gR_ SH0_ b 0 5 = some (b + 5) := by rcases h with rfl | rfl <;> rfl
theorem e_rules {b : Nat} (h : bk_ b) : gR_ SH0_ b 0 8 = some (b + 6) := by rcases h with rfl | rfl <;> rfl
theorem e_sayings {b : Nat} (h : bk_ b) : gR_ SH0_ b 0 10 = some (b + 7) := by rcases h with rfl | rfl <;> rfl
theorem e_words {b : Nat} (h : bk_ b) : gR_ SH0_ b 0 12 = some (b + 8) := by rcases h with rfl | rfl <;> rfl
theorem e_wordCards {b : Nat} (h : bk_ b) : gR_ SH0_ b 0 13 = some (b + 9) := by rcases h with rfl | rfl <;> rfl
theorem e_classes {b : Nat} (h : bk_ b) : gR_ SH0_ b 0 0 = some (b + 1) := by rcases h with rfl | rfl <;> rfl
theorem e_villages {b : Nat} (h : bk_ b) : gR_ SH0_ b 0 1 = some (b + 2) := by rcases h with rfl | rfl <;> rfl
theorem e_rests {b : Nat} (h : bk_ b) : gR_ SH0_ b 0 2 = some (b + 3) := by rcases h with rfl | rfl <;> rfl
theorem e_book {b k : Nat} {M : Mem_m} (h : bk_ b) (hk : rfK_ 0 b k = 0) : gI_ SH0_ M b 0 k = some (M b k) := gI_ok (by have := bk_lt h; omega) (by rw [(bd_1 b (bk_mem h)).1]) hk
theorem e_cardAt {b : Nat} {x : Int} (h : bk_ b) (h1 : 0 ≤ x) (h2 : x < 40) : aR_ SH0_ (b + 4) 22 x = some (cA_ b x) := by
  refine aR_ok (N := 40) (by have := bk_lt h; omega) (bd_1 b (bk_mem h)).2.2.2.2.1 h1 h2 ?_
  show (if x.toNat < 40 then b + 4 + 6 + 3 * x.toNat + 2 else 0) = _
  rw [if_pos (by omega)]
theorem e_card {b k : Nat} {x : Int} {M : Mem_m} (h : bk_ b) (h1 : 0 ≤ x) (h2 : x < 40) (hk : rfK_ 1 (cA_ b x) k = 0) : gI_ SH0_ M (cA_ b x) 1 k = some (M (cA_ b x) k) :=
  gI_ok (by have := bk_lt h; show b + 10 + 3 * x.toNat < 612; omega) (by rw [(bd_c b (bk_mem h) _ (i_rng h1 h2)).1]) hk
theorem e_sounds {b : Nat} {x : Int} (h : bk_ b) (h1 : 0 ≤ x) (h2 : x < 40) : gR_ SH0_ (cA_ b x) 1 0 = some (cA_ b x + 1) :=
  gR_ok (by have := bk_lt h; show b + 10 + 3 * x.toNat < 612; omega) (by rw [(bd_c b (bk_mem h) _ (i_rng h1 h2)).1]) rfl
theorem e_at {b : Nat} {x : Int} (h : bk_ b) (h1 : 0 ≤ x) (h2 : x < 40) : gR_ SH0_ (cA_ b x + 1) 10 0 = some (cA_ b x + 2) :=
  gR_ok (by have := bk_lt h; show b + 10 + 3 * x.toNat + 1 < 612; omega) (by rw [(bd_c b (bk_mem h) _ (i_rng h1 h2)).2.1]) rfl
theorem e_size {b : Nat} {x : Int} {M : Mem_m} (h : bk_ b) (h1 : 0 ≤ x) (h2 : x < 40) : gI_ SH0_ M (cA_ b x + 1) 10 1 = some (M (cA_ b x + 1) 1) :=
  gI_ok (by have := bk_lt h; show b + 10 + 3 * x.toNat + 1 < 612; omega) (by rw [(bd_c b (bk_mem h) _ (i_rng h1 h2)).2.1]) rfl
theorem e_snd {b : Nat} {x i : Int} {M : Mem_m} (h : bk_ b) (h1 : 0 ≤ x) (h2 : x < 40) (h3 : 0 ≤ i) (h4 : i < 8) : aI_ SH0_ M (cA_ b x + 2) i = some (M (cA_ b x + 2) i.toNat) :=
  aI_ok (N := 8) (by have := bk_lt h; show b + 10 + 3 * x.toNat + 2 < 612; omega) (bd_c b (bk_mem h) _ (i_rng h1 h2)).2.2 h3 h4
