/-! what the reference's row says of the class's things -/
def Vw (M : Mem_m) (v : Nat → Int) : Prop := R_ M ∧ M 593 = v
/-- the reference's side alone -/
def Mw (M : Mem_m) (v : Nat → Int) : Prop := M 593 = v ∧ (0 ≤ v 1062 ∧ v 1062 ≤ 40) ∧ (0 ≤ v 1063 ∧ v 1063 ≤ 16)
def vz_ (v : Nat → Int) (x : Int) : Int := v (15 * x.toNat)
def vs_ (v : Nat → Int) (x i : Int) : Int := v (15 * x.toNat + 1 + i.toNat)
def vf_ (v : Nat → Int) (x : Int) (k : Nat) : Int := v (15 * x.toNat + k)
def nk_ (v : Nat → Int) (x : Int) : Int := v (600 + 7 * x.toNat)
def nz_ (v : Nat → Int) (x : Int) : Int := v (600 + 7 * x.toNat + 1)
def ns_ (v : Nat → Int) (x i : Int) : Int := v (600 + 7 * x.toNat + 2 + i.toNat)
def nu_ (v : Nat → Int) (x : Int) : Int := v (600 + 7 * x.toNat + 6)
def nw_ (v : Nat → Int) (x : Int) : Int := if nk_ v x = 3 then 2 * nz_ v x else nz_ v x
def wz_ (v : Nat → Int) (x : Int) : Int := v (936 + 10 * x.toNat)
def ws_ (v : Nat → Int) (x i : Int) : Int := v (936 + 10 * x.toNat + 1 + i.toNat)
def wc_ (v : Nat → Int) (x : Int) : Int := v (936 + 10 * x.toNat + 9)
def yc_ (v : Nat → Int) (x : Int) : Int := v (776 + 8 * x.toNat)
def y5_ (v : Nat → Int) (x : Int) : Int := v (776 + 8 * x.toNat + 5)
def y6_ (v : Nat → Int) (x : Int) : Int := v (776 + 8 * x.toNat + 6)
def y7_ (v : Nat → Int) (x : Int) : Int := v (776 + 8 * x.toNat + 7)
section
variable {M : Mem_m} {v : Nat → Int} {x i : Int}
theorem vw_of (h : R_ M) : ∃ v, Vw M v := ⟨_, h, rfl⟩
theorem vw_R (h : Vw M v) : R_ M := h.1
theorem vw_at (h : Vw M v) (k : Nat) : M 593 k = v k := by rw [h.2]
theorem vw_sm {N : Mem_m} (h : Vw M v) (hs : sm_ M N) : Vw N v := ⟨R_same hs h.1, (hs.1 593 (by decide) (by decide) (by omega) (by decide)).trans h.2⟩
theorem vw_rel (h : Vw M v) : RelB 1 M v := h.2 ▸ h.1.1
theorem vw_4 (h : Vw M v) : M 1 4 = v 1062 := (vw_rel h).1.1.2.2.symm
theorem vb_4 (h : Vw M v) : 0 ≤ v 1062 ∧ v 1062 ≤ 40 := by have h1 := (vw_rel h).1.1; omega
theorem vw_6 (h : Vw M v) : M 1 6 = v 1063 := (vw_rel h).2.1.1.2.2.symm
theorem vb_6 (h : Vw M v) : 0 ≤ v 1063 ∧ v 1063 ≤ 16 := by have h1 := (vw_rel h).2.1.1; omega
theorem vw_9 (h : Vw M v) : M 1 9 = v 1064 := (vw_rel h).2.2.1.1.2.2.symm
theorem vb_9 (h : Vw M v) : 0 ≤ v 1064 ∧ v 1064 ≤ 8 := by have h1 := (vw_rel h).2.2.1.1; omega
theorem vw_11 (h : Vw M v) : M 1 11 = v 1065 := (vw_rel h).2.2.2.1.1.2.2.symm
theorem vb_11 (h : Vw M v) : 0 ≤ v 1065 ∧ v 1065 ≤ 20 := by have h1 := (vw_rel h).2.2.2.1.1; omega
theorem vw_14 (h : Vw M v) : M 1 14 = v 1066 := (vw_rel h).2.2.2.2.1.1.2.2.symm
theorem vb_14 (h : Vw M v) : 0 ≤ v 1066 ∧ v 1066 ≤ 10 := by have h1 := (vw_rel h).2.2.2.2.1.1; omega
theorem vw_card (h : Vw M v) (h1 : 0 ≤ x) (h2 : x < v 1062) : Rcard 1 M v x := (vw_rel h).1.2 x h1 (by rw [vw_4 h]; exact h2)
theorem vw_size (h : Vw M v) (h1 : 0 ≤ x) (h2 : x < v 1062) : M (kD_ x) 1 = vz_ v x := (vw_card h h1 h2).1.2.2.symm
theorem vb_size (h : Vw M v) (h1 : 0 ≤ x) (h2 : x < v 1062) : 1 ≤ vz_ v x ∧ vz_ v x ≤ 8 := by rw [← vw_size h h1 h2]; exact ⟨(vw_card h h1 h2).1.1, (vw_card h h1 h2).1.2.1⟩
theorem vw_snd (h : Vw M v) (h1 : 0 ≤ x) (h2 : x < v 1062) (h3 : 0 ≤ i) (h4 : i < vz_ v x) : M (kE_ x) i.toNat = vs_ v x i := ((vw_card h h1 h2).2.1 i h3 (by show i < M (kD_ x) 1; rw [vw_size h h1 h2]; exact h4)).1.symm
theorem vb_snd (h : Vw M v) (h1 : 0 ≤ x) (h2 : x < v 1062) (h3 : 0 ≤ i) (h4 : i < vz_ v x) : 0 ≤ vs_ v x i ∧ vs_ v x i ≤ 9 := by rw [← vw_snd h h1 h2 h3 h4]; exact ((vw_card h h1 h2).2.1 i h3 (by show i < M (kD_ x) 1; rw [vw_size h h1 h2]; exact h4)).2
theorem vw_c1 (h : Vw M v) (h1 : 0 ≤ x) (h2 : x < v 1062) : M (kC_ x) 1 = vf_ v x 9 := (vw_card h h1 h2).2.2.1.1.symm
theorem vb_c1 (h : Vw M v) (h1 : 0 ≤ x) (h2 : x < v 1062) : 0 ≤ vf_ v x 9 ∧ vf_ v x 9 ≤ 1023 := by rw [← vw_c1 h h1 h2]; exact (vw_card h h1 h2).2.2.1.2
theorem vw_c2 (h : Vw M v) (h1 : 0 ≤ x) (h2 : x < v 1062) : M (kC_ x) 2 = vf_ v x 10 := (vw_card h h1 h2).2.2.2.1.1.symm
theorem vb_c2 (h : Vw M v) (h1 : 0 ≤ x) (h2 : x < v 1062) : 0 ≤ vf_ v x 10 ∧ vf_ v x 10 ≤ 7 := by rw [← vw_c2 h h1 h2]; exact (vw_card h h1 h2).2.2.2.1.2
theorem vw_c3 (h : Vw M v) (h1 : 0 ≤ x) (h2 : x < v 1062) : M (kC_ x) 3 = vf_ v x 11 := (vw_card h h1 h2).2.2.2.2.1.1.symm
theorem vb_c3 (h : Vw M v) (h1 : 0 ≤ x) (h2 : x < v 1062) : 0 ≤ vf_ v x 11 ∧ vf_ v x 11 ≤ 3 := by rw [← vw_c3 h h1 h2]; exact (vw_card h h1 h2).2.2.2.2.1.2
theorem vw_c4 (h : Vw M v) (h1 : 0 ≤ x) (h2 : x < v 1062) : M (kC_ x) 4 = vf_ v x 12 := (vw_card h h1 h2).2.2.2.2.2.1.1.symm
theorem vb_c4 (h : Vw M v) (h1 : 0 ≤ x) (h2 : x < v 1062) : 0 ≤ vf_ v x 12 ∧ vf_ v x 12 ≤ 999 := by rw [← vw_c4 h h1 h2]; exact (vw_card h h1 h2).2.2.2.2.2.1.2
theorem vw_c5 (h : Vw M v) (h1 : 0 ≤ x) (h2 : x < v 1062) : M (kC_ x) 5 = vf_ v x 13 := (vw_card h h1 h2).2.2.2.2.2.2.1.1.symm
theorem vb_c5 (h : Vw M v) (h1 : 0 ≤ x) (h2 : x < v 1062) : vf_ v x 13 = 0 ∨ vf_ v x 13 = 1 := by rw [← vw_c5 h h1 h2]; exact (vw_card h h1 h2).2.2.2.2.2.2.1.2
theorem vw_c6 (h : Vw M v) (h1 : 0 ≤ x) (h2 : x < v 1062) : M (kC_ x) 6 = vf_ v x 14 := (vw_card h h1 h2).2.2.2.2.2.2.2.1.symm
theorem vb_c6 (h : Vw M v) (h1 : 0 ≤ x) (h2 : x < v 1062) : 0 ≤ vf_ v x 14 ∧ vf_ v x 14 ≤ 2 := by rw [← vw_c6 h h1 h2]; exact (vw_card h h1 h2).2.2.2.2.2.2.2.2
theorem vw_note (h : Vw M v) (h1 : 0 ≤ x) (h2 : x < v 1063) : Rnote 1 M v x := (vw_rel h).2.1.2.2 x h1 (by rw [vw_6 h]; exact h2)
theorem vw_n0 (h : Vw M v) (h1 : 0 ≤ x) (h2 : x < v 1063) : M (kN_ x) 0 = x := (vw_note h h1 h2).1
theorem vw_n1 (h : Vw M v) (h1 : 0 ≤ x) (h2 : x < v 1063) : M (kN_ x) 1 = nk_ v x := (vw_note h h1 h2).2.1.1.symm
theorem vb_n1 (h : Vw M v) (h1 : 0 ≤ x) (h2 : x < v 1063) : 0 ≤ nk_ v x ∧ nk_ v x ≤ 4 := by rw [← vw_n1 h h1 h2]; exact (vw_note h h1 h2).2.1.2
theorem vw_nz (h : Vw M v) (h1 : 0 ≤ x) (h2 : x < v 1063) : M (kO_ x) 1 = nz_ v x := (vw_note h h1 h2).2.2.1.1.symm
theorem vb_nz (h : Vw M v) (h1 : 0 ≤ x) (h2 : x < v 1063) : 1 ≤ nz_ v x ∧ nz_ v x ≤ 4 := by rw [← vw_nz h h1 h2]; exact (vw_note h h1 h2).2.2.1.2
theorem vw_ns (h : Vw M v) (h1 : 0 ≤ x) (h2 : x < v 1063) (h3 : 0 ≤ i) (h4 : i < nz_ v x) : M (kP_ x) i.toNat = ns_ v x i := ((vw_note h h1 h2).2.2.2.1 i h3 (by show i < M (kO_ x) 1; rw [vw_nz h h1 h2]; exact h4)).1.symm
theorem vb_ns (h : Vw M v) (h1 : 0 ≤ x) (h2 : x < v 1063) (h3 : 0 ≤ i) (h4 : i < nz_ v x) : 0 ≤ ns_ v x i ∧ ns_ v x i ≤ 9 := by rw [← vw_ns h h1 h2 h3 h4]; exact ((vw_note h h1 h2).2.2.2.1 i h3 (by show i < M (kO_ x) 1; rw [vw_nz h h1 h2]; exact h4)).2
theorem vw_nw (h : Vw M v) (h1 : 0 ≤ x) (h2 : x < v 1063) : M (kQ_ x) 1 = nw_ v x := by
  have h3 := (vw_note h h1 h2).2.2.2.2.1
  unfold nw_; rw [← vw_n1 h h1 h2, ← vw_nz h h1 h2]; exact h3
theorem vb_nw (h : Vw M v) (h1 : 0 ≤ x) (h2 : x < v 1063) : 1 ≤ nw_ v x ∧ nw_ v x ≤ 8 := by
  have h3 := vb_nz h h1 h2
  unfold nw_; split <;> omega
theorem vw_nq (h : Vw M v) (h1 : 0 ≤ x) (h2 : x < v 1063) (h3 : 0 ≤ i) (h4 : i < nw_ v x) : M (kR_ x) i.toNat = ns_ v x (i % nz_ v x) := by
  have h5 := (vw_note h h1 h2).2.2.2.2.2.1 i h3 (by show i < M (kQ_ x) 1; rw [vw_nw h h1 h2]; exact h4)
  have h6 := vb_nz h h1 h2
  rw [← vw_ns h h1 h2 (Int.emod_nonneg _ (by omega)) (Int.emod_lt_of_pos _ (by omega)), ← vw_nz h h1 h2]; exact h5
theorem vw_nu (h : Vw M v) (h1 : 0 ≤ x) (h2 : x < v 1063) : nu_ v x = bt_ (M 1 7) x := (vw_note h h1 h2).2.2.2.2.2.2
theorem vb_7 (h : Vw M v) : 0 ≤ M 1 7 ∧ M 1 7 < 2 ^ (v 1063).toNat := by have h1 := (vw_rel h).2.1.2.1; rw [vw_6 h] at h1; exact h1
theorem vw_rule (h : Vw M v) (h1 : 0 ≤ x) (h2 : x < v 1064) : Rrule 1 M v x := (vw_rel h).2.2.1.2 x h1 (by rw [vw_9 h]; exact h2)
theorem vw_say (h : Vw M v) (h1 : 0 ≤ x) (h2 : x < v 1065) : Rsaying 1 M v x := (vw_rel h).2.2.2.1.2 x h1 (by rw [vw_11 h]; exact h2)
theorem vw_y0 (h : Vw M v) (h1 : 0 ≤ x) (h2 : x < v 1065) : M (kY_ x) 0 = y5_ v x := (vw_say h h1 h2).1.1.symm
theorem vb_y0 (h : Vw M v) (h1 : 0 ≤ x) (h2 : x < v 1065) : 0 ≤ y5_ v x ∧ y5_ v x ≤ 7 := by rw [← vw_y0 h h1 h2]; exact (vw_say h h1 h2).1.2
theorem vw_y1 (h : Vw M v) (h1 : 0 ≤ x) (h2 : x < v 1065) : M (kY_ x) 1 = y6_ v x := (vw_say h h1 h2).2.1.1.symm
theorem vb_y1 (h : Vw M v) (h1 : 0 ≤ x) (h2 : x < v 1065) : 0 ≤ y6_ v x ∧ y6_ v x ≤ 999 := by rw [← vw_y1 h h1 h2]; exact (vw_say h h1 h2).2.1.2
theorem vw_y2 (h : Vw M v) (h1 : 0 ≤ x) (h2 : x < v 1065) : ∃ m : Int, (yc_ v x, m) ∈ vc_l ∧ ((y7_ v x = 1 ∧ M (kY_ x) 2 = m) ∨ (y7_ v x = 0 ∧ M (kY_ x) 2 = an_i 16777215 (xo_i m (-1)))) := (vw_say h h1 h2).2.2
theorem vw_word (h : Vw M v) (h1 : 0 ≤ x) (h2 : x < v 1066) : Rword 1 M v x := (vw_rel h).2.2.2.2.1.2 x h1 (by rw [vw_14 h]; exact h2)
theorem vw_wz (h : Vw M v) (h1 : 0 ≤ x) (h2 : x < v 1066) : M (kW_ x) 1 = wz_ v x := (vw_word h h1 h2).1.1.symm
theorem vb_wz (h : Vw M v) (h1 : 0 ≤ x) (h2 : x < v 1066) : 1 ≤ wz_ v x ∧ wz_ v x ≤ 8 := by rw [← vw_wz h h1 h2]; exact (vw_word h h1 h2).1.2
theorem vw_ws (h : Vw M v) (h1 : 0 ≤ x) (h2 : x < v 1066) (h3 : 0 ≤ i) (h4 : i < wz_ v x) : M (kX_ x) i.toNat = ws_ v x i := ((vw_word h h1 h2).2.1 i h3 (by show i < M (kW_ x) 1; rw [vw_wz h h1 h2]; exact h4)).1.symm
theorem vb_ws (h : Vw M v) (h1 : 0 ≤ x) (h2 : x < v 1066) (h3 : 0 ≤ i) (h4 : i < wz_ v x) : 0 ≤ ws_ v x i ∧ ws_ v x i ≤ 9 := by rw [← vw_ws h h1 h2 h3 h4]; exact ((vw_word h h1 h2).2.1 i h3 (by show i < M (kW_ x) 1; rw [vw_wz h h1 h2]; exact h4)).2
theorem vw_wc (h : Vw M v) (h1 : 0 ≤ x) (h2 : x < v 1066) : M 10 x.toNat = wc_ v x := (vw_word h h1 h2).2.2.1.symm
theorem vb_wc (h : Vw M v) (h1 : 0 ≤ x) (h2 : x < v 1066) : 0 ≤ wc_ v x ∧ wc_ v x < v 1062 := by rw [← vw_wc h h1 h2, ← vw_4 h]; exact (vw_word h h1 h2).2.2.2
theorem vw_cl (h : Vw M v) (h1 : 0 ≤ x) (h2 : x < 10) : M 2 x.toNat = v (1036 + x.toNat) := ((vw_rel h).2.2.2.2.2.1 x h1 h2).1.symm
theorem vb_cl (h : Vw M v) (h1 : 0 ≤ x) (h2 : x < 10) : 0 ≤ v (1036 + x.toNat) ∧ v (1036 + x.toNat) ≤ 3 := by rw [← vw_cl h h1 h2]; exact ((vw_rel h).2.2.2.2.2.1 x h1 h2).2
theorem vw_vi (h : Vw M v) (h1 : 0 ≤ x) (h2 : x < 8) : M 3 x.toNat = v (1046 + x.toNat) := ((vw_rel h).2.2.2.2.2.2.1 x h1 h2).1.symm
theorem vb_vi (h : Vw M v) (h1 : 0 ≤ x) (h2 : x < 8) : 0 ≤ v (1046 + x.toNat) ∧ v (1046 + x.toNat) ≤ 3 := by rw [← vw_vi h h1 h2]; exact ((vw_rel h).2.2.2.2.2.2.1 x h1 h2).2
theorem vw_re (h : Vw M v) (h1 : 0 ≤ x) (h2 : x < 8) : M 4 x.toNat = v (1054 + x.toNat) := ((vw_rel h).2.2.2.2.2.2.2 x h1 h2).1.symm
theorem vb_re (h : Vw M v) (h1 : 0 ≤ x) (h2 : x < 8) : 0 ≤ v (1054 + x.toNat) ∧ v (1054 + x.toNat) ≤ 99 := by rw [← vw_re h h1 h2]; exact ((vw_rel h).2.2.2.2.2.2.2 x h1 h2).2
theorem mw_at (h : Mw M v) (k : Nat) : M 593 k = v k := by rw [h.1]
theorem mw_of (h : Vw M v) : Mw M v := ⟨h.2, vb_4 h, vb_6 h⟩
/-! small functions of both sides -/
theorem c_isIn {n : Int} : f_X11_isIn SH0_ M x n = some (if 0 ≤ x ∧ x < n then 1 else 0) := by
  unfold f_X11_isIn
  by_cases h1 : x < 0
  · rw [if_pos h1, if_neg (by omega)]
  · by_cases h2 : x < n
    · rw [if_neg h1, if_pos h2, if_pos (by omega)]
    · rw [if_neg h1, if_neg h2, if_neg (by omega)]
theorem bc_isIn {β' : Type} {n : Int} {f : _ → Option β'} : (f_X11_isIn SH0_ M x n).bind f = f (if 0 ≤ x ∧ x < n then 1 else 0) := congrArg (fun o => Option.bind o f) (c_isIn)
theorem m_isIn {lo hi : Int} : f_X12_isIn SH0_ M x lo hi = some (if lo ≤ x ∧ x ≤ hi then 1 else 0) := by
  unfold f_X12_isIn
  by_cases h1 : x < lo
  · rw [if_pos h1, if_pos (by decide), if_neg (by omega)]
  · rw [if_neg h1]
    by_cases h2 : lo < x
    · rw [if_pos h2, if_neg (by decide)]
      by_cases h3 : x < hi
      · rw [if_pos h3, if_pos (by decide), if_pos (by omega)]
      · by_cases h4 : hi < x
        · rw [if_neg h3, if_pos h4, if_neg (by decide), if_neg (by omega)]
        · rw [if_neg h3, if_neg h4, if_pos (by decide), if_pos (by omega)]
    · rw [if_neg h2, if_neg (by decide)]
      by_cases h3 : x < hi
      · rw [if_pos h3, if_pos (by decide), if_pos (by omega)]
      · by_cases h4 : hi < x
        · rw [if_neg h3, if_pos h4, if_neg (by decide), if_neg (by omega)]
        · rw [if_neg h3, if_neg h4, if_pos (by decide), if_pos (by omega)]
theorem bm_isIn {β' : Type} {lo hi : Int} {f : _ → Option β'} : (f_X12_isIn SH0_ M x lo hi).bind f = f (if lo ≤ x ∧ x ≤ hi then 1 else 0) := congrArg (fun o => Option.bind o f) (m_isIn)
theorem b01 {P : Prop} [Decidable P] : (if P then (1 : Int) else 0) = 0 ∨ (if P then (1 : Int) else 0) = 1 := by
  by_cases h : P
  · rw [if_pos h]; exact Or.inr rfl
  · rw [if_neg h]; exact Or.inl rfl
theorem i01 {P : Prop} [Decidable P] : ((if P then (1 : Int) else 0) = 0) = ¬ P := by
  by_cases h : P
  · rw [if_pos h]; simp [h]
  · rw [if_neg h]; simp [h]
theorem i10 {P : Prop} [Decidable P] : ((if P then (1 : Int) else 0) = 1) = P := by
  by_cases h : P
  · rw [if_pos h]; simp [h]
  · rw [if_neg h]; simp [h]
theorem j01 {β : Type} {P : Prop} [Decidable P] {a : β} : (if (if P then (1 : Int) else 0) = 0 ∨ (if P then (1 : Int) else 0) = 1 then some a else none) = some a := if_pos b01
theorem m_isShelf : f_X12_isShelf SH0_ M x = some (if 0 ≤ x ∧ x < 8 then 1 else 0) := by
  unfold f_X12_isShelf
  rw [m_isIn, Option.bind_some, j01]
  have h : (0 ≤ x ∧ x ≤ 7) ↔ (0 ≤ x ∧ x < 8) := by omega
  simp only [h]
theorem bm_isShelf {β' : Type}  {f : _ → Option β'} : (f_X12_isShelf SH0_ M x).bind f = f (if 0 ≤ x ∧ x < 8 then 1 else 0) := congrArg (fun o => Option.bind o f) (m_isShelf)
theorem m_isCard (h : Mw M v) : f_X12_isCard SH0_ M 592 x = some (if 0 ≤ x ∧ x < v 1062 then 1 else 0) := by
  have h4 := h.2.1
  unfold f_X12_isCard
  rw [qr_592_0, Option.bind_some, qi_593 (by decide) (by decide), Option.bind_some, m_isIn, Option.bind_some, j01, show M 593 (1062 : Int).toNat = v 1062 from mw_at h 1062, wr_n (by omega) (by omega)]
  have h : (0 ≤ x ∧ x ≤ v 1062 - 1) ↔ (0 ≤ x ∧ x < v 1062) := by omega
  simp only [h]
theorem bm_isCard {β' : Type} (h : Mw M v) {f : _ → Option β'} : (f_X12_isCard SH0_ M 592 x).bind f = f (if 0 ≤ x ∧ x < v 1062 then 1 else 0) := congrArg (fun o => Option.bind o f) (m_isCard h)
theorem m_isNote (h : Mw M v) : f_X12_isNote SH0_ M 592 x = some (if 0 ≤ x ∧ x < v 1063 then 1 else 0) := by
  have h4 := h.2.2
  unfold f_X12_isNote
  rw [qr_592_0, Option.bind_some, qi_593 (by decide) (by decide), Option.bind_some, m_isIn, Option.bind_some, j01, show M 593 (1063 : Int).toNat = v 1063 from mw_at h 1063, wr_n (by omega) (by omega)]
  have h : (0 ≤ x ∧ x ≤ v 1063 - 1) ↔ (0 ≤ x ∧ x < v 1063) := by omega
  simp only [h]
theorem bm_isNote {β' : Type} (h : Mw M v) {f : _ → Option β'} : (f_X12_isNote SH0_ M 592 x).bind f = f (if 0 ≤ x ∧ x < v 1063 then 1 else 0) := congrArg (fun o => Option.bind o f) (m_isNote h)
/-- a field of a card -/
theorem m_of {k : Int} (h : Mw M v) (h1 : 0 ≤ x) (h2 : x < 40) (h3 : 0 ≤ k) (h4 : k < 15) : f_X12_of SH0_ M 592 x k = some (v (15 * x.toNat + k.toNat)) := by
  unfold f_X12_of
  rw [qr_592_0, Option.bind_some, wr_n (x := 15 * x) (by omega) (by omega), wr_n (by omega) (by omega), qi_593 (by omega) (by omega), Option.bind_some, mw_at h, show (15 * x + k).toNat = 15 * x.toNat + k.toNat by omega]
theorem m_of0 (h : Mw M v) (h1 : 0 ≤ x) (h2 : x < 40) : f_X12_of SH0_ M 592 x 0 = some (vz_ v x) := m_of h h1 h2 (by decide) (by decide)
theorem bm_of0 {β' : Type} (h : Mw M v) (h1 : 0 ≤ x) (h2 : x < 40) {f : _ → Option β'} : (f_X12_of SH0_ M 592 x 0).bind f = f (vz_ v x) := congrArg (fun o => Option.bind o f) (m_of0 h h1 h2)
theorem m_of9 (h : Mw M v) (h1 : 0 ≤ x) (h2 : x < 40) : f_X12_of SH0_ M 592 x 9 = some (vf_ v x 9) := m_of h h1 h2 (by decide) (by decide)
theorem bm_of9 {β' : Type} (h : Mw M v) (h1 : 0 ≤ x) (h2 : x < 40) {f : _ → Option β'} : (f_X12_of SH0_ M 592 x 9).bind f = f (vf_ v x 9) := congrArg (fun o => Option.bind o f) (m_of9 h h1 h2)
theorem m_of10 (h : Mw M v) (h1 : 0 ≤ x) (h2 : x < 40) : f_X12_of SH0_ M 592 x 10 = some (vf_ v x 10) := m_of h h1 h2 (by decide) (by decide)
theorem bm_of10 {β' : Type} (h : Mw M v) (h1 : 0 ≤ x) (h2 : x < 40) {f : _ → Option β'} : (f_X12_of SH0_ M 592 x 10).bind f = f (vf_ v x 10) := congrArg (fun o => Option.bind o f) (m_of10 h h1 h2)
theorem m_of11 (h : Mw M v) (h1 : 0 ≤ x) (h2 : x < 40) : f_X12_of SH0_ M 592 x 11 = some (vf_ v x 11) := m_of h h1 h2 (by decide) (by decide)
theorem bm_of11 {β' : Type} (h : Mw M v) (h1 : 0 ≤ x) (h2 : x < 40) {f : _ → Option β'} : (f_X12_of SH0_ M 592 x 11).bind f = f (vf_ v x 11) := congrArg (fun o => Option.bind o f) (m_of11 h h1 h2)
theorem m_of12 (h : Mw M v) (h1 : 0 ≤ x) (h2 : x < 40) : f_X12_of SH0_ M 592 x 12 = some (vf_ v x 12) := m_of h h1 h2 (by decide) (by decide)
theorem bm_of12 {β' : Type} (h : Mw M v) (h1 : 0 ≤ x) (h2 : x < 40) {f : _ → Option β'} : (f_X12_of SH0_ M 592 x 12).bind f = f (vf_ v x 12) := congrArg (fun o => Option.bind o f) (m_of12 h h1 h2)
theorem m_of13 (h : Mw M v) (h1 : 0 ≤ x) (h2 : x < 40) : f_X12_of SH0_ M 592 x 13 = some (vf_ v x 13) := m_of h h1 h2 (by decide) (by decide)
theorem bm_of13 {β' : Type} (h : Mw M v) (h1 : 0 ≤ x) (h2 : x < 40) {f : _ → Option β'} : (f_X12_of SH0_ M 592 x 13).bind f = f (vf_ v x 13) := congrArg (fun o => Option.bind o f) (m_of13 h h1 h2)
theorem m_of14 (h : Mw M v) (h1 : 0 ≤ x) (h2 : x < 40) : f_X12_of SH0_ M 592 x 14 = some (vf_ v x 14) := m_of h h1 h2 (by decide) (by decide)
theorem bm_of14 {β' : Type} (h : Mw M v) (h1 : 0 ≤ x) (h2 : x < 40) {f : _ → Option β'} : (f_X12_of SH0_ M 592 x 14).bind f = f (vf_ v x 14) := congrArg (fun o => Option.bind o f) (m_of14 h h1 h2)
theorem m_ofs (h : Mw M v) (h1 : 0 ≤ x) (h2 : x < 40) (h3 : 0 ≤ i) (h4 : i < 8) : f_X12_of SH0_ M 592 x (1 + i) = some (vs_ v x i) := by
  rw [m_of h h1 h2 (by omega) (by omega)]
  unfold vs_
  rw [show 15 * x.toNat + (1 + i).toNat = 15 * x.toNat + 1 + i.toNat by omega]
theorem bm_ofs {β' : Type} (h : Mw M v) (h1 : 0 ≤ x) (h2 : x < 40) (h3 : 0 ≤ i) (h4 : i < 8) {f : _ → Option β'} : (f_X12_of SH0_ M 592 x (1 + i)).bind f = f (vs_ v x i) := congrArg (fun o => Option.bind o f) (m_ofs h h1 h2 h3 h4)
/-- a field of a note -/
theorem m_note {k : Int} (h : Mw M v) (h1 : 0 ≤ x) (h2 : x < 16) (h3 : 0 ≤ k) (h4 : k < 7) : f_X12_noteOf SH0_ M 592 x k = some (v (600 + 7 * x.toNat + k.toNat)) := by
  unfold f_X12_noteOf
  rw [qr_592_0, Option.bind_some, wr_n (x := 7 * x) (by omega) (by omega), wr_n (x := 600 + 7 * x) (by omega) (by omega), wr_n (by omega) (by omega), qi_593 (by omega) (by omega), Option.bind_some, mw_at h, show (600 + 7 * x + k).toNat = 600 + 7 * x.toNat + k.toNat by omega]
theorem m_note0 (h : Mw M v) (h1 : 0 ≤ x) (h2 : x < 16) : f_X12_noteOf SH0_ M 592 x 0 = some (nk_ v x) := m_note h h1 h2 (by decide) (by decide)
theorem bm_note0 {β' : Type} (h : Mw M v) (h1 : 0 ≤ x) (h2 : x < 16) {f : _ → Option β'} : (f_X12_noteOf SH0_ M 592 x 0).bind f = f (nk_ v x) := congrArg (fun o => Option.bind o f) (m_note0 h h1 h2)
theorem m_note1 (h : Mw M v) (h1 : 0 ≤ x) (h2 : x < 16) : f_X12_noteOf SH0_ M 592 x 1 = some (nz_ v x) := m_note h h1 h2 (by decide) (by decide)
theorem bm_note1 {β' : Type} (h : Mw M v) (h1 : 0 ≤ x) (h2 : x < 16) {f : _ → Option β'} : (f_X12_noteOf SH0_ M 592 x 1).bind f = f (nz_ v x) := congrArg (fun o => Option.bind o f) (m_note1 h h1 h2)
theorem m_note2 (h : Mw M v) (h1 : 0 ≤ x) (h2 : x < 16) : f_X12_noteOf SH0_ M 592 x 2 = some (ns_ v x 0) := m_note h h1 h2 (by decide) (by decide)
theorem bm_note2 {β' : Type} (h : Mw M v) (h1 : 0 ≤ x) (h2 : x < 16) {f : _ → Option β'} : (f_X12_noteOf SH0_ M 592 x 2).bind f = f (ns_ v x 0) := congrArg (fun o => Option.bind o f) (m_note2 h h1 h2)
theorem m_note6 (h : Mw M v) (h1 : 0 ≤ x) (h2 : x < 16) : f_X12_noteOf SH0_ M 592 x 6 = some (nu_ v x) := m_note h h1 h2 (by decide) (by decide)
theorem bm_note6 {β' : Type} (h : Mw M v) (h1 : 0 ≤ x) (h2 : x < 16) {f : _ → Option β'} : (f_X12_noteOf SH0_ M 592 x 6).bind f = f (nu_ v x) := congrArg (fun o => Option.bind o f) (m_note6 h h1 h2)
theorem m_notes (h : Mw M v) (h1 : 0 ≤ x) (h2 : x < 16) (h3 : 0 ≤ i) (h4 : i < 4) : f_X12_noteOf SH0_ M 592 x (2 + i) = some (ns_ v x i) := by
  rw [m_note h h1 h2 (by omega) (by omega)]
  unfold ns_
  rw [show 600 + 7 * x.toNat + (2 + i).toNat = 600 + 7 * x.toNat + 2 + i.toNat by omega]
theorem bm_notes {β' : Type} (h : Mw M v) (h1 : 0 ≤ x) (h2 : x < 16) (h3 : 0 ≤ i) (h4 : i < 4) {f : _ → Option β'} : (f_X12_noteOf SH0_ M 592 x (2 + i)).bind f = f (ns_ v x i) := congrArg (fun o => Option.bind o f) (m_notes h h1 h2 h3 h4)
end
