/-! reading and writing over the shape SH0_: what gI_, gR_, aI_ .. answer -/
theorem gI_ok {M : Mem_m} {a ci k : Nat} (h1 : a < 612) (h2 : (kd0_ a).1 = ci) (h3 : rfK_ ci a k = 0) : gI_ SH0_ M a ci k = some (M a k) := by
  subst h2; exact if_pos ⟨h1, rfl, h3⟩
theorem gR_ok {a ci k r : Nat} (h1 : a < 612) (h2 : (kd0_ a).1 = ci) (h3 : rfK_ ci a k = r + 2) : gR_ SH0_ a ci k = some r := by
  subst h2
  have h4 : SH0_.2.2 a k = r + 2 := h3
  unfold gR_
  rw [if_pos ⟨h1, rfl, by rw [h4]; omega⟩, h4]; rfl
theorem pI_ok {M : Mem_m} {a ci k : Nat} {v : Int} (h1 : a < 612) (h2 : (kd0_ a).1 = ci) (h3 : rfK_ ci a k = 0) : pI_ SH0_ M a ci k v = some (st_m M a k v) := by
  subst h2; exact if_pos ⟨h1, rfl, h3⟩
theorem pZ_ok {M : Mem_m} {a ci k : Nat} {v : Int} (h1 : a < 612) (h2 : (kd0_ a).1 = ci) (h3 : rfK_ ci a k = 0) (hv : v = 0 ∨ v = 1) : pZ_ SH0_ M a ci k v = some (st_m M a k v) := by
  subst h2; exact if_pos ⟨h1, rfl, h3, hv⟩
theorem aI_ok {M : Mem_m} {a N : Nat} {i : Int} (h1 : a < 612) (h2 : kd0_ a = (20, N)) (h3 : 0 ≤ i) (h4 : i < N) : aI_ SH0_ M a i = some (M a i.toNat) :=
  if_pos ⟨h1, by show (kd0_ a).1 = 20; rw [h2], h3, by show i < ((kd0_ a).2 : Int); rw [h2]; exact h4⟩
theorem sI_ok {M : Mem_m} {a N : Nat} {i v : Int} (h1 : a < 612) (h2 : kd0_ a = (20, N)) (h3 : 0 ≤ i) (h4 : i < N) : sI_ SH0_ M a i v = some (st_m M a i.toNat v) :=
  if_pos ⟨h1, by show (kd0_ a).1 = 20; rw [h2], h3, by show i < ((kd0_ a).2 : Int); rw [h2]; exact h4⟩
theorem aZ_ok {M : Mem_m} {a N : Nat} {i : Int} (h1 : a < 612) (h2 : kd0_ a = (21, N)) (h3 : 0 ≤ i) (h4 : i < N) : aZ_ SH0_ M a i = some (M a i.toNat) :=
  if_pos ⟨h1, by show (kd0_ a).1 = 21; rw [h2], h3, by show i < ((kd0_ a).2 : Int); rw [h2]; exact h4⟩
theorem sZ_ok {M : Mem_m} {a N : Nat} {i v : Int} (h1 : a < 612) (h2 : kd0_ a = (21, N)) (h3 : 0 ≤ i) (h4 : i < N) (hv : v = 0 ∨ v = 1) : sZ_ SH0_ M a i v = some (st_m M a i.toNat v) :=
  if_pos ⟨h1, by show (kd0_ a).1 = 21; rw [h2], h3, by show i < ((kd0_ a).2 : Int); rw [h2]; exact h4, hv⟩
theorem aR_ok {a t N r : Nat} {i : Int} (h1 : a < 612) (h2 : kd0_ a = (t, N)) (h3 : 0 ≤ i) (h4 : i < N) (h5 : rfK_ t a i.toNat = r + 2) : aR_ SH0_ a t i = some r := by
  have h6 : SH0_.2.2 a i.toNat = r + 2 := by show rfK_ (kd0_ a).1 a i.toNat = _; rw [h2]; exact h5
  unfold aR_
  rw [if_pos ⟨h1, by show (kd0_ a).1 = t; rw [h2], h3, by show i < ((kd0_ a).2 : Int); rw [h2]; exact h4, by rw [h6]; omega⟩, h6]; rfl
theorem aL_ok {a N : Nat} (h1 : a < 612) (h2 : kd0_ a = (20, N)) (h3 : N < 2147483648) : aL_ SH0_ a = some (N : Int) := by
  unfold aL_
  rw [if_pos ⟨h1, by show (kd0_ a).1 = 20; rw [h2], by show (kd0_ a).2 < _; rw [h2]; exact h3⟩]
  show some (((kd0_ a).2 : Nat) : Int) = _
  rw [h2]
theorem vc_ok {β : Type} {a ci : Nat} {o : Option β} (h1 : a < 612) (h2 : (kd0_ a).1 = ci) : vc_ SH0_ a ci o = o := if_pos ⟨h1, h2⟩
theorem cp_ok {M : Mem_m} {a b Na Nb : Nat} {i j n : Int} (h1 : a < 612) (h2 : b < 612) (h3 : kd0_ a = (20, Na)) (h4 : kd0_ b = (20, Nb)) (hi : 0 ≤ i) (hj : 0 ≤ j) (hn : 0 ≤ n) (ha : i + n ≤ Na) (hb : j + n ≤ Nb) : cp_ SH0_ M a i b j n = some (cpM_ M a i.toNat b j.toNat n.toNat) :=
  if_pos ⟨h1, h2, by show (kd0_ a).1 = 20; rw [h3], by show (kd0_ b).1 = 20; rw [h4], hi, hj, hn, by show i + n ≤ ((kd0_ a).2 : Int); rw [h3]; exact ha, by show j + n ≤ ((kd0_ b).2 : Int); rw [h4]; exact hb⟩
/-- small whole numbers don't wrap -/
theorem wr_ad {x y : Int} (h1 : -2147483648 ≤ x + y) (h2 : x + y ≤ 2147483647) : wr_i (x + y) = x + y := wr_id ⟨h1, h2⟩
