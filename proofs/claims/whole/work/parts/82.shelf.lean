/-! shelves -/
section
variable {M : Mem_m} {v : Nat → Int} {d i : Int}
theorem vw_shelf (h : Vw M v) (h1 : 0 ≤ d) (h2 : d < 8) : Rshelf M d := h.1.2.2.2.1 d h1 h2
theorem vw_s0 (h : Vw M v) (h1 : 0 ≤ d) (h2 : d < 8) : M (kS_ d) 0 = M 595 d.toNat := (vw_shelf h h1 h2).1.1.symm
theorem vb_s0 (h : Vw M v) (h1 : 0 ≤ d) (h2 : d < 8) : 0 ≤ M 595 d.toNat ∧ M 595 d.toNat ≤ 2 := by rw [← vw_s0 h h1 h2]; exact (vw_shelf h h1 h2).1.2
theorem vw_row (h : Vw M v) (h1 : 0 ≤ d) (h2 : d < 8) (h3 : M 595 d.toNat = 2) : (M 596 d.toNat = M (kS_ d) 2 ∧ 0 ≤ M (kS_ d) 2 ∧ M (kS_ d) 2 ≤ 2) ∧ (M 597 d.toNat = M (kS_ d) 3 ∧ 0 ≤ M (kS_ d) 3 ∧ M (kS_ d) 3 ≤ 80) ∧ ∀ i : Int, 0 ≤ i → i < M (kS_ d) 3 → M 598 (80 * d.toNat + i.toNat) = M (kJ_ d) i.toNat := (vw_shelf h h1 h2).2.1 (by show M (kS_ d) 0 = 2; rw [vw_s0 h h1 h2]; exact h3)
theorem vw_s2 (h : Vw M v) (h1 : 0 ≤ d) (h2 : d < 8) (h3 : M 595 d.toNat = 2) : M (kS_ d) 2 = M 596 d.toNat := (vw_row h h1 h2 h3).1.1.symm
theorem vb_s2 (h : Vw M v) (h1 : 0 ≤ d) (h2 : d < 8) (h3 : M 595 d.toNat = 2) : 0 ≤ M 596 d.toNat ∧ M 596 d.toNat ≤ 2 := by rw [← vw_s2 h h1 h2 h3]; exact (vw_row h h1 h2 h3).1.2
theorem vw_s3 (h : Vw M v) (h1 : 0 ≤ d) (h2 : d < 8) (h3 : M 595 d.toNat = 2) : M (kS_ d) 3 = M 597 d.toNat := (vw_row h h1 h2 h3).2.1.1.symm
theorem vb_s3 (h : Vw M v) (h1 : 0 ≤ d) (h2 : d < 8) (h3 : M 595 d.toNat = 2) : 0 ≤ M 597 d.toNat ∧ M 597 d.toNat ≤ 80 := by rw [← vw_s3 h h1 h2 h3]; exact (vw_row h h1 h2 h3).2.1.2
theorem vw_el (h : Vw M v) (h1 : 0 ≤ d) (h2 : d < 8) (h3 : M 595 d.toNat = 2) (h4 : 0 ≤ i) (h5 : i < M 597 d.toNat) : M (kJ_ d) i.toNat = M 598 (80 * d.toNat + i.toNat) := ((vw_row h h1 h2 h3).2.2 i h4 (by rw [vw_s3 h h1 h2 h3]; exact h5)).symm
theorem vw_snote (h : Vw M v) (h1 : 0 ≤ d) (h2 : d < 8) (h3 : M 595 d.toNat = 1) : (0 ≤ M (kT_ d) 0 ∧ M (kT_ d) 0 ≤ 15) ∧ (0 ≤ M (kT_ d) 1 ∧ M (kT_ d) 1 ≤ 4) ∧ (1 ≤ M (kF_ d) 1 ∧ M (kF_ d) 1 ≤ 4) ∧ M 599 d.toNat = ln_ (M (kT_ d) 1) (M (kF_ d) 1) ∧ M 600 d.toNat = tf_ (M (kT_ d) 0) (M (kT_ d) 1) (M (kF_ d) 1) (M (kG_ d) 0) := (vw_shelf h h1 h2).2.2 (by show M (kS_ d) 0 = 1; rw [vw_s0 h h1 h2]; exact h3)
/-- LENGTH of a note, anywhere -/
theorem c_len {a b : Nat} {k z : Int} (h1 : gR_ SH0_ a 5 2 = some b) (h2 : gI_ SH0_ M b 10 1 = some z) (h3 : gI_ SH0_ M a 5 1 = some k) (h4 : 0 ≤ z) (h5 : z ≤ 8) : f_X5_lengthTold SH0_ M a = some (ln_ k z) := by
  unfold f_X5_lengthTold ln_
  rw [h1, Option.bind_some, h2, Option.bind_some, h3, Option.bind_some, wr_n (x := z + 1) (by omega) (by omega), wr_n (x := z + 1 + 2) (by omega) (by omega), wr_n (x := 2 * (z + 1)) (by omega) (by omega), wr_n (x := 2 * (z + 1) - 1) (by omega) (by omega), wr_n (x := z + 1 + 2 + 3) (by omega) (by omega)]
  by_cases k1 : k = 1
  · rw [if_pos k1, if_pos k1, show z + 1 + 2 = z + 3 by omega]
  rw [if_neg k1, if_neg k1]
  by_cases k2 : k = 2
  · rw [if_pos k2, if_pos k2]
  rw [if_neg k2, if_neg k2]
  by_cases k3 : k = 3
  · rw [if_pos k3, if_pos k3, show 2 * (z + 1) - 1 = 2 * z + 1 by omega]
  rw [if_neg k3, if_neg k3]
  by_cases k4 : k = 4
  · rw [if_pos k4, if_pos k4, show z + 1 + 2 + 3 = z + 6 by omega]
  rw [if_neg k4, if_neg k4]
theorem m_len {x : Int} (h : Mw M v) (h1 : 0 ≤ x) (h2 : x < 16) (h4 : 0 ≤ nz_ v x) (h5 : nz_ v x ≤ 8) : f_X12_lengthOf SH0_ M 592 x = some (ln_ (nk_ v x) (nz_ v x)) := by
  unfold f_X12_lengthOf ln_
  rw [m_note1 h h1 h2, qv_592, Option.bind_some, m_note0 h h1 h2, qv_592, Option.bind_some]
  generalize nz_ v x = z at *
  generalize nk_ v x = k at *
  rw [wr_n (x := z + 1) (by omega) (by omega), wr_n (x := z + 1 + 2) (by omega) (by omega), wr_n (x := 2 * (z + 1)) (by omega) (by omega), wr_n (x := 2 * (z + 1) - 1) (by omega) (by omega), wr_n (x := z + 1 + 5) (by omega) (by omega)]
  by_cases k1 : k = 1
  · rw [if_pos k1, if_pos k1, show z + 1 + 2 = z + 3 by omega]
  rw [if_neg k1, if_neg k1]
  by_cases k2 : k = 2
  · rw [if_pos k2, if_pos k2]
  rw [if_neg k2, if_neg k2]
  by_cases k3 : k = 3
  · rw [if_pos k3, if_pos k3, show 2 * (z + 1) - 1 = 2 * z + 1 by omega]
  rw [if_neg k3, if_neg k3]
  by_cases k4 : k = 4
  · rw [if_pos k4, if_pos k4, show z + 1 + 5 = z + 6 by omega]
  rw [if_neg k4, if_neg k4]
theorem bm_len {β' : Type} {x : Int} (h : Mw M v) (h1 : 0 ≤ x) (h2 : x < 16) (h4 : 0 ≤ nz_ v x) (h5 : nz_ v x ≤ 8) {f : _ → Option β'} : (f_X12_lengthOf SH0_ M 592 x).bind f = f (ln_ (nk_ v x) (nz_ v x)) := congrArg (fun o => Option.bind o f) (m_len h h1 h2 h4 h5)
theorem c_lenN {x : Int} (h : Vw M v) (h1 : 0 ≤ x) (h2 : x < v 1063) : f_X5_lengthTold SH0_ M (kN_ x) = some (ln_ (nk_ v x) (nz_ v x)) := by
  have b6 := vb_6 h
  have bz := vb_nz h h1 h2
  exact c_len (qr_N2 h1 (by omega)) (by rw [qgkO_1 h1 (by omega), vw_nz h h1 h2]) (by rw [qgkN_1 h1 (by omega), vw_n1 h h1 h2]) (by omega) (by omega)
theorem bc_lenN {β' : Type} {x : Int} (h : Vw M v) (h1 : 0 ≤ x) (h2 : x < v 1063) {f : _ → Option β'} : (f_X5_lengthTold SH0_ M (kN_ x)).bind f = f (ln_ (nk_ v x) (nz_ v x)) := congrArg (fun o => Option.bind o f) (c_lenN h h1 h2)
theorem c_fail {a b e : Nat} {k z f w : Int} (h1 : gR_ SH0_ a 5 2 = some b) (h2 : gI_ SH0_ M b 10 1 = some z) (h3 : gI_ SH0_ M a 5 1 = some k) (h4 : gR_ SH0_ b 10 0 = some e) (h5 : aI_ SH0_ M e 0 = some f) (h6 : gI_ SH0_ M a 5 0 = some w) (h7 : 0 ≤ w) (h8 : w ≤ 15) : f_X5_failure SH0_ M a = some (tf_ w k z f) := by
  unfold f_X5_failure tf_
  rw [h3, Option.bind_some]
  by_cases k1 : k = 2
  · rw [if_pos k1, if_pos k1]
  rw [if_neg k1, if_neg k1, h1, Option.bind_some, h2, Option.bind_some]
  by_cases k2 : z < 2
  · rw [if_pos k2, if_pos k2]
  rw [if_neg k2, if_neg k2, Option.bind_some]
  by_cases k3 : k = 3
  · rw [if_pos k3, if_pos k3, Option.bind_some, h4, Option.bind_some, h5, Option.bind_some]
  rw [if_neg k3, if_neg k3, Option.bind_some]
  by_cases k4 : k = 4
  · rw [if_pos k4, if_pos k4, h6, Option.bind_some, wr_n (by omega) (by omega)]
  rw [if_neg k4, if_neg k4, h6, Option.bind_some]
theorem c_refNote (h : Vw M v) (h1 : 0 ≤ d) (h2 : d < 8) : f_X9_refusalOfNote SH0_ M (kS_ d) = some (if M 595 d.toNat = 0 then -11 else if M 595 d.toNat = 1 then 0 else -12) := by
  unfold f_X9_refusalOfNote
  rw [qgkS_0 h1 h2, Option.bind_some, Option.bind_some, vw_s0 h h1 h2]
  split
  · rfl
  · split <;> rfl
theorem bc_refNote {β' : Type} (h : Vw M v) (h1 : 0 ≤ d) (h2 : d < 8) {f : _ → Option β'} : (f_X9_refusalOfNote SH0_ M (kS_ d)).bind f = f (if M 595 d.toNat = 0 then -11 else if M 595 d.toNat = 1 then 0 else -12) := congrArg (fun o => Option.bind o f) (c_refNote h h1 h2)
theorem c_refRow (h : Vw M v) (h1 : 0 ≤ d) (h2 : d < 8) : f_X9_refusalOfRow SH0_ M (kS_ d) = some (if M 595 d.toNat = 0 then -11 else if M 595 d.toNat = 2 then 0 else -12) := by
  unfold f_X9_refusalOfRow
  rw [qgkS_0 h1 h2, Option.bind_some, Option.bind_some, vw_s0 h h1 h2]
  split
  · rfl
  · split <;> rfl
theorem bc_refRow {β' : Type} (h : Vw M v) (h1 : 0 ≤ d) (h2 : d < 8) {f : _ → Option β'} : (f_X9_refusalOfRow SH0_ M (kS_ d)).bind f = f (if M 595 d.toNat = 0 then -11 else if M 595 d.toNat = 2 then 0 else -12) := congrArg (fun o => Option.bind o f) (c_refRow h h1 h2)
def rb_ (M : Mem_m) (d : Int) : Int := if M 595 d.toNat = 0 then -11 else if M 595 d.toNat = 2 then (if M 596 d.toNat = 0 then 0 else -12) else -12
theorem rb_0 {h : rb_ M d = 0} : M 595 d.toNat = 2 ∧ M 596 d.toNat = 0 := by
  unfold rb_ at h
  split at h
  · omega
  · split at h
    · split at h
      · exact ⟨by assumption, by assumption⟩
      · omega
    · omega
theorem c_refBytes (h : Vw M v) (h1 : 0 ≤ d) (h2 : d < 8) : f_X9_refusalOfBytes SH0_ M (kS_ d) = some (rb_ M d) := by
  unfold f_X9_refusalOfBytes rb_
  rw [c_refRow h h1 h2, qvkS_ h1 h2, Option.bind_some]
  by_cases k0 : M 595 d.toNat = 0
  · rw [if_pos k0, if_neg (by decide), if_pos k0]
  rw [if_neg k0, if_neg k0]
  by_cases k2 : M 595 d.toNat = 2
  · rw [if_pos k2, if_pos rfl, if_pos k2, qgkS_2 h1 h2, Option.bind_some, vw_s2 h h1 h2 k2]
    split <;> rfl
  rw [if_neg k2, if_neg k2, if_neg (by decide)]
theorem bc_refBytes {β' : Type} (h : Vw M v) (h1 : 0 ≤ d) (h2 : d < 8) {f : _ → Option β'} : (f_X9_refusalOfBytes SH0_ M (kS_ d)).bind f = f (rb_ M d) := congrArg (fun o => Option.bind o f) (c_refBytes h h1 h2)
theorem m_wrongRow0 (h1 : 0 ≤ d) (h2 : d < 8) : f_X12_wrongRow SH0_ M 592 d 0 = some (rb_ M d) := by
  unfold f_X12_wrongRow rb_
  rw [m_isShelf, Option.bind_some, if_neg (by rw [if_pos ⟨h1, h2⟩]; decide), qr_592_2, Option.bind_some, qi_595 h1 h2, Option.bind_some]
  by_cases k0 : M 595 d.toNat = 0
  · rw [if_pos k0, if_pos k0]
  rw [if_neg k0, if_neg k0, Option.bind_some, qi_595 h1 h2, Option.bind_some]
  by_cases k2 : M 595 d.toNat = 2
  · rw [if_pos k2, if_pos k2, if_neg (by decide), qr_592_3, Option.bind_some, qi_596 h1 h2, Option.bind_some]
    split <;> rfl
  rw [if_neg k2, if_neg k2]
theorem bm_wrongRow0 {β' : Type} (h1 : 0 ≤ d) (h2 : d < 8) {f : _ → Option β'} : (f_X12_wrongRow SH0_ M 592 d 0).bind f = f (rb_ M d) := congrArg (fun o => Option.bind o f) (m_wrongRow0 h1 h2)
theorem m_wrongRowS {o : Int} (h1 : ¬ (0 ≤ d ∧ d < 8)) : f_X12_wrongRow SH0_ M 592 d o = some (-1) := by
  unfold f_X12_wrongRow
  rw [m_isShelf, Option.bind_some, if_pos (by rw [if_neg h1])]
theorem bm_wrongRowS {β' : Type} {o : Int} (h1 : ¬ (0 ≤ d ∧ d < 8)) {f : _ → Option β'} : (f_X12_wrongRow SH0_ M 592 d o).bind f = f (-1) := congrArg (fun o => Option.bind o f) (m_wrongRowS h1)
theorem m_wrongRow1 (h1 : 0 ≤ d) (h2 : d < 8) : f_X12_wrongRow SH0_ M 592 d (-1) = some (if M 595 d.toNat = 0 then -11 else if M 595 d.toNat = 2 then 0 else -12) := by
  unfold f_X12_wrongRow
  rw [m_isShelf, Option.bind_some, if_neg (by rw [if_pos ⟨h1, h2⟩]; decide), qr_592_2, Option.bind_some, qi_595 h1 h2, Option.bind_some]
  by_cases k0 : M 595 d.toNat = 0
  · rw [if_pos k0, if_pos k0]
  rw [if_neg k0, if_neg k0, Option.bind_some, qi_595 h1 h2, Option.bind_some]
  by_cases k2 : M 595 d.toNat = 2
  · rw [if_pos k2, if_pos k2, if_pos (by decide)]
  rw [if_neg k2, if_neg k2]
theorem bm_wrongRow1 {β' : Type} (h1 : 0 ≤ d) (h2 : d < 8) {f : _ → Option β'} : (f_X12_wrongRow SH0_ M 592 d (-1)).bind f = f (if M 595 d.toNat = 0 then -11 else if M 595 d.toNat = 2 then 0 else -12) := congrArg (fun o => Option.bind o f) (m_wrongRow1 h1 h2)
end
