/-! the loop of the law -/
theorem an_63 (x : Int) : 0 ≤ an_i x 63 ∧ an_i x 63 ≤ 63 := by
  unfold an_i
  have h : ∀ y : Int32, 0 ≤ (y &&& Int32.ofInt 63).toInt ∧ (y &&& Int32.ofInt 63).toInt ≤ 63 := by
    intro y
    have e : (y &&& Int32.ofInt 63).toBitVec.toNat ≤ 63 := by
      rw [Int32.toBitVec_and, BitVec.toNat_and]
      exact Nat.and_le_right
    have e2 : (y &&& Int32.ofInt 63).toInt = ((y &&& Int32.ofInt 63).toBitVec.toNat : Int) := by
      rw [← Int32.toInt_toBitVec, BitVec.toInt_eq_toNat_of_lt (by omega)]
    rw [e2]
    omega
  exact h _
abbrev Xc_ (p : Program) (l : Launch) (e : Env) (s : State) (m : MethodId) (b : Nat) (below : List Frame) (meth : Method) (c : Code) (cc oo : Nat) : XT_x := (p, l, e, room_1, s, m, #[Value.ref b], below, meth, c, (cc, oo), fun q => s.heap.size ≤ q)
def Sim_ (R : Mem_m → Prop) : Prop := sim_0 R ∧ sim_1 R ∧ sim_2 R ∧ sim_3 R ∧ sim_4 R ∧ sim_5 R ∧ sim_6 R ∧ sim_7 R ∧ sim_8 R ∧ sim_9 R ∧ sim_10 R ∧ sim_11 R ∧ sim_12 R ∧ sim_13 R ∧ sim_14 R ∧ sim_15 R ∧ sim_16 R ∧ sim_17 R ∧ sim_18 R ∧ sim_19 R ∧ sim_20 R ∧ sim_21 R ∧ sim_22 R ∧ sim_23 R ∧ sim_24 R ∧ sim_25 R ∧ sim_26 R ∧ sim_27 R ∧ sim_28 R ∧ sim_29 R ∧ sim_30 R ∧ sim_31 R ∧ sim_32 R ∧ sim_33 R ∧ sim_34 R ∧ sim_35 R ∧ sim_37 R ∧ sim_38 R ∧ sim_39 R
set_option maxHeartbeats 4000000 in
set_option maxRecDepth 100000 in
theorem law_loop {p : Program} {l : Launch} {e : Env} {s : State} {m : MethodId} {below : List Frame} {meth : Method} {c : Code} {b L : Nat} {xs : Nat → Int32} {D : va_G} {ca : Nat → ClassId} {R : Mem_m → Prop} (hLN : L ≤ 3072) (C0 : lw_At p s m meth c b L xs) (hKn : Kn_ (G0_ s.heap.size D ca) s) (hs : Sim_ R)
    (hel : ∀ (j : Nat) (M : Mem_m) (cc oo : Nat), 6 * j + 6 ≤ L → cc ≤ 600000 → oo ≤ 7000000 → R M → (∀ M2, R M2 → V_ K_L (Xc_ p l e s m b below meth c (cc + 1) (oo + 6)) (G0_ s.heap.size D ca) (lw_Z below #[Value.ref b] s) M2 1726 (LV_ s.heap.size b j) []) → V_ K_L (Xc_ p l e s m b below meth c cc oo) (G0_ s.heap.size D ca) (lw_Z below #[Value.ref b] s) M 1536 (LV_ s.heap.size b j) []) :
    ∀ (n j : Nat) (M : Mem_m) (cc oo : Nat), 600 - j < n → j ≤ 513 → cc ≤ 1000 + j → oo ≤ 20000 + 6 * j → R M → V_ K_L (Xc_ p l e s m b below meth c cc oo) (G0_ s.heap.size D ca) (lw_Z below #[Value.ref b] s) M 23 (LV_ s.heap.size b j) [] := by
  obtain ⟨hx, hb, hr, hml, hown, hts, hXs, hbl, hlocks, hgv⟩ := id C0
  have hTB : ∀ w ∈ TB_t, w.before #[Value.ref b] s = true := fun w hw => hts w (List.mem_filter.mp hw).1
  intro n
  induction n with
  | zero => intro j M cc oo h; exact absurd h (Nat.not_lt_zero _)
  | succ n ih =>
    intro j M cc oo hn hj hcc hoo hR
    have mkC : ∀ cc oo, cc ≤ 601024 → oo ≤ 7293034 → Cx_ K_L (Xc_ p l e s m b below meth c cc oo) (G0_ s.heap.size D ca) := fun cc oo h1 h2 => ⟨hx, hb, hml, hown, hTB, hKn, ⟨Nat.le_of_ble_eq_true rfl, Nat.le_of_ble_eq_true rfl, h1, h2⟩, fun q hq => hq.1⟩
    have mkX : ∀ cc oo, Lx_ (Xc_ p l e s m b below meth c cc oo) b L xs := fun cc oo => ⟨hXs, hbl, Nat.not_le.mpr hbl, by omega⟩
    have C := mkC cc oo (by omega) (by omega)
    have hX := mkX cc oo
    refine V_iload (j := 0) C d_L_23 rfl ?_
    refine V_aload_n (j := 4) C d_L_25 rfl rfl ?_
    refine V_slen C hX d_L_26 ?_
    refine V_bipush (v := 6) C d_L_27 rfl ?_
    refine V_isub C d_L_29 ?_
    have e6 : wr_i ((L : Int) - 6) = (L : Int) - 6 := wr_id (by unfold ok_i; omega)
    rw [e6]
    by_cases hle : 6 * j + 6 ≤ L
    · have hL6 := hle
      refine V_icmp_gt (tgt := 1732) (o1 := some ()) (o2 := none) (z := ()) C d_L_30 (by decide) (by unfold ok_i; omega) (by unfold ok_i; omega) (if_pos (by omega)) (fun _ => ?_) (fun h => nomatch h)
      have nxt : ∀ (M2 : Mem_m) (cc2 oo2 : Nat), cc2 ≤ 1000 + (j + 1) → oo2 ≤ 20000 + 6 * (j + 1) → R M2 → V_ K_L (Xc_ p l e s m b below meth c cc2 oo2) (G0_ s.heap.size D ca) (lw_Z below #[Value.ref b] s) M2 1726 (LV_ s.heap.size b j) [] := by
        intro M2 cc2 oo2 h1 h2 hR2
        have C2 := mkC cc2 oo2 (by omega) (by omega)
        refine V_iinc (j := 0) (x := ((6 * j : Nat) : Int)) (lv' := (4, iv_i (wr_i (((6 * j : Nat) : Int) + 6))) :: (LV_ s.heap.size b j).tail) C2 d_L_1726 rfl (by decide) rfl ?_
        refine V_goto (tgt := 23) C2 d_L_1729 (by decide) ?_
        have e7 : wr_i (((6 * j : Nat) : Int) + 6) = ((6 * (j + 1) : Nat) : Int) := by rw [wr_id (by unfold ok_i; omega)]; omega
        rw [e7]
        exact ih (j + 1) M2 cc2 oo2 (by omega) (by omega) h1 h2 hR2
      refine V_aload_n (j := 4) C d_L_33 rfl rfl ?_
      refine V_iload (j := 0) C d_L_34 rfl ?_
      refine V_sald (i := 6 * j) C hX (by omega) d_L_36 ?_
      refine V_bipush (v := 63) C d_L_37 rfl ?_
      refine V_iand C d_L_39 ?_
      by_cases e0 : an_i (xs (6 * j)).toInt 63 = 0
      · refine V_tabIn (tgt := 216) C d_L_40 (ok_I _) (by omega) (by omega) (by rw [e0]; rfl) (by decide) ?_
        exact law_0 C hX hL6 hs.1 hR (fun M2 h2 => nxt M2 cc oo (by omega) (by omega) h2)
      by_cases e1 : an_i (xs (6 * j)).toInt 63 = 1
      · refine V_tabIn (tgt := 277) C d_L_40 (ok_I _) (by omega) (by omega) (by rw [e1]; rfl) (by decide) ?_
        exact law_1 C hX hL6 hs.2.1 hR (fun M2 h2 => nxt M2 cc oo (by omega) (by omega) h2)
      by_cases e2 : an_i (xs (6 * j)).toInt 63 = 2
      · refine V_tabIn (tgt := 314) C d_L_40 (ok_I _) (by omega) (by omega) (by rw [e2]; rfl) (by decide) ?_
        exact law_2 C hX hL6 hs.2.2.1 hR (fun M2 h2 => nxt M2 cc oo (by omega) (by omega) h2)
      by_cases e3 : an_i (xs (6 * j)).toInt 63 = 3
      · refine V_tabIn (tgt := 351) C d_L_40 (ok_I _) (by omega) (by omega) (by rw [e3]; rfl) (by decide) ?_
        exact law_3 C hX hL6 hs.2.2.2.1 hR (fun M2 h2 => nxt M2 cc oo (by omega) (by omega) h2)
      by_cases e4 : an_i (xs (6 * j)).toInt 63 = 4
      · refine V_tabIn (tgt := 388) C d_L_40 (ok_I _) (by omega) (by omega) (by rw [e4]; rfl) (by decide) ?_
        exact law_4 C hX hL6 hs.2.2.2.2.1 hR (fun M2 h2 => nxt M2 cc oo (by omega) (by omega) h2)
      by_cases e5 : an_i (xs (6 * j)).toInt 63 = 5
      · refine V_tabIn (tgt := 437) C d_L_40 (ok_I _) (by omega) (by omega) (by rw [e5]; rfl) (by decide) ?_
        exact law_5 C hX hL6 hs.2.2.2.2.2.1 hR (fun M2 h2 => nxt M2 cc oo (by omega) (by omega) h2)
      by_cases e6 : an_i (xs (6 * j)).toInt 63 = 6
      · refine V_tabIn (tgt := 474) C d_L_40 (ok_I _) (by omega) (by omega) (by rw [e6]; rfl) (by decide) ?_
        exact law_6 C hX hL6 hs.2.2.2.2.2.2.1 hR (fun M2 h2 => nxt M2 cc oo (by omega) (by omega) h2)
      by_cases e7 : an_i (xs (6 * j)).toInt 63 = 7
      · refine V_tabIn (tgt := 511) C d_L_40 (ok_I _) (by omega) (by omega) (by rw [e7]; rfl) (by decide) ?_
        exact law_7 C hX hL6 hs.2.2.2.2.2.2.2.1 hR (fun M2 h2 => nxt M2 cc oo (by omega) (by omega) h2)
      by_cases e8 : an_i (xs (6 * j)).toInt 63 = 8
      · refine V_tabIn (tgt := 564) C d_L_40 (ok_I _) (by omega) (by omega) (by rw [e8]; rfl) (by decide) ?_
        exact law_8 C hX hL6 hs.2.2.2.2.2.2.2.2.1 hR (fun M2 h2 => nxt M2 cc oo (by omega) (by omega) h2)
      by_cases e9 : an_i (xs (6 * j)).toInt 63 = 9
      · refine V_tabIn (tgt := 601) C d_L_40 (ok_I _) (by omega) (by omega) (by rw [e9]; rfl) (by decide) ?_
        exact law_9 C hX hL6 hs.2.2.2.2.2.2.2.2.2.1 hR (fun M2 h2 => nxt M2 cc oo (by omega) (by omega) h2)
      by_cases e10 : an_i (xs (6 * j)).toInt 63 = 10
      · refine V_tabIn (tgt := 638) C d_L_40 (ok_I _) (by omega) (by omega) (by rw [e10]; rfl) (by decide) ?_
        exact law_10 C hX hL6 hs.2.2.2.2.2.2.2.2.2.2.1 hR (fun M2 h2 => nxt M2 cc oo (by omega) (by omega) h2)
      by_cases e11 : an_i (xs (6 * j)).toInt 63 = 11
      · refine V_tabIn (tgt := 663) C d_L_40 (ok_I _) (by omega) (by omega) (by rw [e11]; rfl) (by decide) ?_
        exact law_11 C hX hL6 hs.2.2.2.2.2.2.2.2.2.2.2.1 hR (fun M2 h2 => nxt M2 cc oo (by omega) (by omega) h2)
      by_cases e12 : an_i (xs (6 * j)).toInt 63 = 12
      · refine V_tabIn (tgt := 688) C d_L_40 (ok_I _) (by omega) (by omega) (by rw [e12]; rfl) (by decide) ?_
        exact law_12 C hX hL6 hs.2.2.2.2.2.2.2.2.2.2.2.2.1 hR (fun M2 h2 => nxt M2 cc oo (by omega) (by omega) h2)
      by_cases e13 : an_i (xs (6 * j)).toInt 63 = 13
      · refine V_tabIn (tgt := 713) C d_L_40 (ok_I _) (by omega) (by omega) (by rw [e13]; rfl) (by decide) ?_
        exact law_13 C hX hL6 hs.2.2.2.2.2.2.2.2.2.2.2.2.2.1 hR (fun M2 h2 => nxt M2 cc oo (by omega) (by omega) h2)
      by_cases e14 : an_i (xs (6 * j)).toInt 63 = 14
      · refine V_tabIn (tgt := 750) C d_L_40 (ok_I _) (by omega) (by omega) (by rw [e14]; rfl) (by decide) ?_
        exact law_14 C hX hL6 hs.2.2.2.2.2.2.2.2.2.2.2.2.2.2.1 hR (fun M2 h2 => nxt M2 cc oo (by omega) (by omega) h2)
      by_cases e15 : an_i (xs (6 * j)).toInt 63 = 15
      · refine V_tabIn (tgt := 787) C d_L_40 (ok_I _) (by omega) (by omega) (by rw [e15]; rfl) (by decide) ?_
        exact law_15 C hX hL6 hs.2.2.2.2.2.2.2.2.2.2.2.2.2.2.2.1 hR (fun M2 h2 => nxt M2 cc oo (by omega) (by omega) h2)
      by_cases e16 : an_i (xs (6 * j)).toInt 63 = 16
      · refine V_tabIn (tgt := 864) C d_L_40 (ok_I _) (by omega) (by omega) (by rw [e16]; rfl) (by decide) ?_
        exact law_16 C hX hL6 hs.2.2.2.2.2.2.2.2.2.2.2.2.2.2.2.2.1 hR (fun M2 h2 => nxt M2 cc oo (by omega) (by omega) h2)
      by_cases e17 : an_i (xs (6 * j)).toInt 63 = 17
      · refine V_tabIn (tgt := 901) C d_L_40 (ok_I _) (by omega) (by omega) (by rw [e17]; rfl) (by decide) ?_
        exact law_17 C hX hL6 hs.2.2.2.2.2.2.2.2.2.2.2.2.2.2.2.2.2.1 hR (fun M2 h2 => nxt M2 cc oo (by omega) (by omega) h2)
      by_cases e18 : an_i (xs (6 * j)).toInt 63 = 18
      · refine V_tabIn (tgt := 938) C d_L_40 (ok_I _) (by omega) (by omega) (by rw [e18]; rfl) (by decide) ?_
        exact law_18 C hX hL6 hs.2.2.2.2.2.2.2.2.2.2.2.2.2.2.2.2.2.2.1 hR (fun M2 h2 => nxt M2 cc oo (by omega) (by omega) h2)
      by_cases e19 : an_i (xs (6 * j)).toInt 63 = 19
      · refine V_tabIn (tgt := 975) C d_L_40 (ok_I _) (by omega) (by omega) (by rw [e19]; rfl) (by decide) ?_
        exact law_19 C hX hL6 hs.2.2.2.2.2.2.2.2.2.2.2.2.2.2.2.2.2.2.2.1 hR (fun M2 h2 => nxt M2 cc oo (by omega) (by omega) h2)
      by_cases e20 : an_i (xs (6 * j)).toInt 63 = 20
      · refine V_tabIn (tgt := 1012) C d_L_40 (ok_I _) (by omega) (by omega) (by rw [e20]; rfl) (by decide) ?_
        exact law_20 C hX hL6 hs.2.2.2.2.2.2.2.2.2.2.2.2.2.2.2.2.2.2.2.2.1 hR (fun M2 h2 => nxt M2 cc oo (by omega) (by omega) h2)
      by_cases e21 : an_i (xs (6 * j)).toInt 63 = 21
      · refine V_tabIn (tgt := 1037) C d_L_40 (ok_I _) (by omega) (by omega) (by rw [e21]; rfl) (by decide) ?_
        exact law_21 C hX hL6 hs.2.2.2.2.2.2.2.2.2.2.2.2.2.2.2.2.2.2.2.2.2.1 hR (fun M2 h2 => nxt M2 cc oo (by omega) (by omega) h2)
      by_cases e22 : an_i (xs (6 * j)).toInt 63 = 22
      · refine V_tabIn (tgt := 1086) C d_L_40 (ok_I _) (by omega) (by omega) (by rw [e22]; rfl) (by decide) ?_
        exact law_22 C hX hL6 hs.2.2.2.2.2.2.2.2.2.2.2.2.2.2.2.2.2.2.2.2.2.2.1 hR (fun M2 h2 => nxt M2 cc oo (by omega) (by omega) h2)
      by_cases e23 : an_i (xs (6 * j)).toInt 63 = 23
      · refine V_tabIn (tgt := 1123) C d_L_40 (ok_I _) (by omega) (by omega) (by rw [e23]; rfl) (by decide) ?_
        exact law_23 C hX hL6 hs.2.2.2.2.2.2.2.2.2.2.2.2.2.2.2.2.2.2.2.2.2.2.2.1 hR (fun M2 h2 => nxt M2 cc oo (by omega) (by omega) h2)
      by_cases e24 : an_i (xs (6 * j)).toInt 63 = 24
      · refine V_tabIn (tgt := 1148) C d_L_40 (ok_I _) (by omega) (by omega) (by rw [e24]; rfl) (by decide) ?_
        exact law_24 C hX hL6 hs.2.2.2.2.2.2.2.2.2.2.2.2.2.2.2.2.2.2.2.2.2.2.2.2.1 hR (fun M2 h2 => nxt M2 cc oo (by omega) (by omega) h2)
      by_cases e25 : an_i (xs (6 * j)).toInt 63 = 25
      · refine V_tabIn (tgt := 1173) C d_L_40 (ok_I _) (by omega) (by omega) (by rw [e25]; rfl) (by decide) ?_
        exact law_25 C hX hL6 hs.2.2.2.2.2.2.2.2.2.2.2.2.2.2.2.2.2.2.2.2.2.2.2.2.2.1 hR (fun M2 h2 => nxt M2 cc oo (by omega) (by omega) h2)
      by_cases e26 : an_i (xs (6 * j)).toInt 63 = 26
      · refine V_tabIn (tgt := 1198) C d_L_40 (ok_I _) (by omega) (by omega) (by rw [e26]; rfl) (by decide) ?_
        exact law_26 C hX hL6 hs.2.2.2.2.2.2.2.2.2.2.2.2.2.2.2.2.2.2.2.2.2.2.2.2.2.2.1 hR (fun M2 h2 => nxt M2 cc oo (by omega) (by omega) h2)
      by_cases e27 : an_i (xs (6 * j)).toInt 63 = 27
      · refine V_tabIn (tgt := 1251) C d_L_40 (ok_I _) (by omega) (by omega) (by rw [e27]; rfl) (by decide) ?_
        exact law_27 C hX hL6 hs.2.2.2.2.2.2.2.2.2.2.2.2.2.2.2.2.2.2.2.2.2.2.2.2.2.2.2.1 hR (fun M2 h2 => nxt M2 cc oo (by omega) (by omega) h2)
      by_cases e28 : an_i (xs (6 * j)).toInt 63 = 28
      · refine V_tabIn (tgt := 1276) C d_L_40 (ok_I _) (by omega) (by omega) (by rw [e28]; rfl) (by decide) ?_
        exact law_28 C hX hL6 hs.2.2.2.2.2.2.2.2.2.2.2.2.2.2.2.2.2.2.2.2.2.2.2.2.2.2.2.2.1 hR (fun M2 h2 => nxt M2 cc oo (by omega) (by omega) h2)
      by_cases e29 : an_i (xs (6 * j)).toInt 63 = 29
      · refine V_tabIn (tgt := 1301) C d_L_40 (ok_I _) (by omega) (by omega) (by rw [e29]; rfl) (by decide) ?_
        exact law_29 C hX hL6 hs.2.2.2.2.2.2.2.2.2.2.2.2.2.2.2.2.2.2.2.2.2.2.2.2.2.2.2.2.2.1 hR (fun M2 h2 => nxt M2 cc oo (by omega) (by omega) h2)
      by_cases e30 : an_i (xs (6 * j)).toInt 63 = 30
      · refine V_tabIn (tgt := 1338) C d_L_40 (ok_I _) (by omega) (by omega) (by rw [e30]; rfl) (by decide) ?_
        exact law_30 C hX hL6 hs.2.2.2.2.2.2.2.2.2.2.2.2.2.2.2.2.2.2.2.2.2.2.2.2.2.2.2.2.2.2.1 hR (fun M2 h2 => nxt M2 cc oo (by omega) (by omega) h2)
      by_cases e31 : an_i (xs (6 * j)).toInt 63 = 31
      · refine V_tabIn (tgt := 1351) C d_L_40 (ok_I _) (by omega) (by omega) (by rw [e31]; rfl) (by decide) ?_
        exact law_31 C hX hL6 hs.2.2.2.2.2.2.2.2.2.2.2.2.2.2.2.2.2.2.2.2.2.2.2.2.2.2.2.2.2.2.2.1 hR (fun M2 h2 => nxt M2 cc oo (by omega) (by omega) h2)
      by_cases e32 : an_i (xs (6 * j)).toInt 63 = 32
      · refine V_tabIn (tgt := 1364) C d_L_40 (ok_I _) (by omega) (by omega) (by rw [e32]; rfl) (by decide) ?_
        exact law_32 C hX hL6 hs.2.2.2.2.2.2.2.2.2.2.2.2.2.2.2.2.2.2.2.2.2.2.2.2.2.2.2.2.2.2.2.2.1 hR (fun M2 h2 => nxt M2 cc oo (by omega) (by omega) h2)
      by_cases e33 : an_i (xs (6 * j)).toInt 63 = 33
      · refine V_tabIn (tgt := 1389) C d_L_40 (ok_I _) (by omega) (by omega) (by rw [e33]; rfl) (by decide) ?_
        exact law_33 C hX hL6 hs.2.2.2.2.2.2.2.2.2.2.2.2.2.2.2.2.2.2.2.2.2.2.2.2.2.2.2.2.2.2.2.2.2.1 hR (fun M2 h2 => nxt M2 cc oo (by omega) (by omega) h2)
      by_cases e34 : an_i (xs (6 * j)).toInt 63 = 34
      · refine V_tabIn (tgt := 1438) C d_L_40 (ok_I _) (by omega) (by omega) (by rw [e34]; rfl) (by decide) ?_
        exact law_34 C hX hL6 hs.2.2.2.2.2.2.2.2.2.2.2.2.2.2.2.2.2.2.2.2.2.2.2.2.2.2.2.2.2.2.2.2.2.2.1 hR (fun M2 h2 => nxt M2 cc oo (by omega) (by omega) h2)
      by_cases e35 : an_i (xs (6 * j)).toInt 63 = 35
      · refine V_tabIn (tgt := 1487) C d_L_40 (ok_I _) (by omega) (by omega) (by rw [e35]; rfl) (by decide) ?_
        exact law_35 C hX hL6 hs.2.2.2.2.2.2.2.2.2.2.2.2.2.2.2.2.2.2.2.2.2.2.2.2.2.2.2.2.2.2.2.2.2.2.2.1 hR (fun M2 h2 => nxt M2 cc oo (by omega) (by omega) h2)
      by_cases e36 : an_i (xs (6 * j)).toInt 63 = 36
      · refine V_tabIn (tgt := 1536) C d_L_40 (ok_I _) (by omega) (by omega) (by rw [e36]; rfl) (by decide) ?_
        exact hel j M cc oo hL6 (by omega) (by omega) hR (fun M2 h2 => nxt M2 (cc + 1) (oo + 6) (by omega) (by omega) h2)
      by_cases e37 : an_i (xs (6 * j)).toInt 63 = 37
      · refine V_tabIn (tgt := 1603) C d_L_40 (ok_I _) (by omega) (by omega) (by rw [e37]; rfl) (by decide) ?_
        exact law_37 C hX hL6 hs.2.2.2.2.2.2.2.2.2.2.2.2.2.2.2.2.2.2.2.2.2.2.2.2.2.2.2.2.2.2.2.2.2.2.2.2.1 hR (fun M2 h2 => nxt M2 cc oo (by omega) (by omega) h2)
      by_cases e38 : an_i (xs (6 * j)).toInt 63 = 38
      · refine V_tabIn (tgt := 1676) C d_L_40 (ok_I _) (by omega) (by omega) (by rw [e38]; rfl) (by decide) ?_
        exact law_38 C hX hL6 hs.2.2.2.2.2.2.2.2.2.2.2.2.2.2.2.2.2.2.2.2.2.2.2.2.2.2.2.2.2.2.2.2.2.2.2.2.2.1 hR (fun M2 h2 => nxt M2 cc oo (by omega) (by omega) h2)
      by_cases e39 : an_i (xs (6 * j)).toInt 63 = 39
      · refine V_tabIn (tgt := 1701) C d_L_40 (ok_I _) (by omega) (by omega) (by rw [e39]; rfl) (by decide) ?_
        exact law_39 C hX hL6 hs.2.2.2.2.2.2.2.2.2.2.2.2.2.2.2.2.2.2.2.2.2.2.2.2.2.2.2.2.2.2.2.2.2.2.2.2.2.2 hR (fun M2 h2 => nxt M2 cc oo (by omega) (by omega) h2)
      exact V_tabOut (tgt := 1726) C d_L_40 (ok_I _) (by have := an_63 (xs (6 * j)).toInt; omega) (by decide) (nxt M cc oo (by omega) (by omega) hR)
    · refine V_icmp_gt (tgt := 1732) (o1 := none) (o2 := some ()) (z := ()) C d_L_30 (by decide) (by unfold ok_i; omega) (by unfold ok_i; omega) (if_neg (by omega)) (fun h => nomatch h) (fun _ => ?_)
      refine V_iconst C d_L_1732 ?_
      intro hM H locs ls hP hS hl
      refine va_forget hS.2.2 ?_
      refine W.widen (k := 601024) (n := 7293034) (by show cc ≤ _; omega) (by show oo ≤ _; omega) ?_
      exact lw_ret hx hb hr hlocks d_L_1733
