/-! case 36 in the law's walk -/
theorem l1_L_177 : L1_ RL 177 yX12_element := tb_in (qt_7 (List.mem_of_getElem? (i := 95) (by decide +kernel))) rfl
theorem l1_L_178 : L1_ RL 178 yX12_thrown := tb_in (qt_5 (List.mem_of_getElem? (i := 217) (by decide +kernel))) rfl
def sim_36 (R : Mem_m → Prop) : Prop := ∀ (M : Mem_m) (d i : Int) (_ : ok_i d) (_ : ok_i i) (_ : ok_m M) (_ : R M), ∃ (k r v : Int) (M2 : Mem_m), el_f SH0_ M 0 d i = some (k, r) ∧ ok_i k ∧ ok_i r ∧ ok_i v ∧ f_X12_element SH0_ (mE_ M k r) 592 d i = some (M2, v) ∧ f_X12_thrown SH0_ M2 592 = some k ∧ (k = 0 → v = r ∧ M2 611 0 = r) ∧ R M2
def Pl_ (G : GT_g) (M : Mem_m) (U : State) : Prop := Pe_ G M U ∧ G.1 ≤ U.heap.size
theorem Pl_blind {G : GT_g} {M : Mem_m} {av : List Value} : FrameBlind (va_Pc av (fun U => Pe_ G M U ∧ G.1 ≤ U.heap.size)) := fun a U g mk h => ⟨h.1, ⟨⟨h.2.1.1.1, h.2.1.1.2.1, Kn_calling h.2.1.1.2.2⟩, Ex_calling h.2.1.2⟩, h.2.2⟩
theorem V_lstore {K : KT_k} {X : XT_x} {G : GT_g} {Q : State → Prop} {M : Mem_m} {pc : Nat} {lv lv' : List (Nat × Value)} {rest : List Value} {i : Nat} {x : Int} (C : Cx_ K X G) (hd : decode K.1 pc = .ok (.lstore i, 2)) (hn : i + 1 < K.2.1) (hl' : (i, Value.long (Int64.ofInt x)) :: lv.filter (fun q => !(q.1 == i) && (!(q.1 == i + 1) && !(q.1 + 1 == i && q.2.category == 2))) = lv') (k : V_ K X G Q M (pc + 2) lv' rest) : V_ K X G Q M pc lv (jv_i x :: rest) := by
  intro hM H locs ls hP hS hl
  exact lv_lstore C.1 C.2.1 hd hl hn hl' fun ls' h' => k hM H locs ls' hP hS h'
set_option maxHeartbeats 4000000 in
set_option maxRecDepth 100000 in
theorem law_36 {p : Program} {l : Launch} {e : Env} {s : State} {m : MethodId} {below : List Frame} {meth : Method} {c : Code} {b L : Nat} {xs : Nat → Int32} {D : va_G} {ca : Nat → ClassId} {R : Mem_m → Prop} (hLN : L ≤ 3072) (C0 : lw_At p s m meth c b L xs) (hKn : Kn_ (G0_ s.heap.size D ca) s) (hE : Ex_ (G0_ s.heap.size D ca) s) (hst : l.stackTraces = false) (hs : sim_36 R)
    (j : Nat) (M : Mem_m) (cc oo : Nat) (hj : 6 * j + 6 ≤ L) (hcc : cc ≤ 600000) (hoo : oo ≤ 7000000) (hR : R M) (kk : ∀ M2, R M2 → V_ K_L (Xc_ p l e s m b below meth c (cc + 1) (oo + 6)) (G0_ s.heap.size D ca) (lw_Z below #[Value.ref b] s) M2 1726 (LV_ s.heap.size b j) []) :
    V_ K_L (Xc_ p l e s m b below meth c cc oo) (G0_ s.heap.size D ca) (lw_Z below #[Value.ref b] s) M 1536 (LV_ s.heap.size b j) [] := by
  obtain ⟨hx, hb, hr, hml, hown, hts, hXs, hbl, hlocks, hgv⟩ := id C0
  have hTB : ∀ w ∈ TB_t, w.before #[Value.ref b] s = true := fun w hw => hts w (List.mem_filter.mp hw).1
  have mkC : ∀ cc oo, cc ≤ 601024 → oo ≤ 7293034 → Cx_ K_L (Xc_ p l e s m b below meth c cc oo) (G0_ s.heap.size D ca) := fun cc oo h1 h2 => ⟨hx, hb, hml, hown, hTB, hKn, ⟨Nat.le_of_ble_eq_true rfl, Nat.le_of_ble_eq_true rfl, h1, h2⟩, fun q hq => hq.1⟩
  have mkX : ∀ cc oo, Lx_ (Xc_ p l e s m b below meth c cc oo) b L xs := fun cc oo => ⟨hXs, hbl, Nat.not_le.mpr hbl, by omega⟩
  have C := mkC cc oo (by omega) (by omega)
  have hX := mkX cc oo
  refine V_m (fun hok => ?_)
  obtain ⟨k, r, v, M2, h1, hk, hr9, hv9, h2, h3, h4, h5⟩ := hs M (sx_ xs j 1) (sx_ xs j 2) (ok_I _) (ok_I _) hok hR
  refine V_aload_n (j := 3) C d_L_1536 rfl rfl ?_
  refine V_arg (k := 1) C hX (by omega) rfl (by decide) d_L_1537 d_L_1538 d_L_1540 d_L_1541 d_L_1542 ?_
  refine V_arg (k := 2) C hX (by omega) rfl (by decide) d_L_1543 d_L_1544 d_L_1546 d_L_1547 d_L_1548 ?_
  refine V_aload_n (j := 1) C d_L_1549 rfl rfl ?_
  intro hM H locs ls hP hS hl
  have C' := mkC (cc + 1) (oo + 6) (by omega) (by omega)
  have hX' := mkX (cc + 1) (oo + 6)
  have hHs : s.heap.size ≤ H.size := hS.1
  refine va_calli (vx_runSW (y := yL_element) (bytes := cL_element) (maxL := 5) (ret := some .int) (hh := [(0, 9, 12, 13), (0, 9, 16, 15)]) (n := 4) (As := [.ref (s.heap.size + 0), iv_i (sx_ xs j 1), iv_i (sx_ xs j 2), .ref (s.heap.size + 611)]) (rest := []) (c_fix C) (ct_le (M := M) hst (sx_ xs j 1) (sx_ xs j 2) (ok_I _) (ok_I _) hr9 h1) ⟨⟨rfl, rfl, Nat.le_of_ble_eq_true rfl, Nat.le_of_ble_eq_true rfl, c_pay C (fun w hw => ?_), List.mem_cons_self⟩, hTB _ cde_L, hTB _ ein_L, by decide, fun sig hsg => ?_, hTB _ l1_L_172, hTB _ ys_el⟩ ⟨Pl_blind, fun U hU hW => ⟨rfl, ⟨⟨hM, by rw [hU]; exact hP, Kn_warm hKn hW⟩, Ex_warm hE hW hU hS (fun q hq => hq) (Nat.le_refl _)⟩, by rw [hU]; exact hHs⟩⟩ rfl rfl hl.1 rfl (lv_room (Nat.le_of_ble_eq_true rfl)) d_L_1550 ⟨by show cc + 1 ≤ 601024; omega, by show oo + 6 ≤ 7293034; omega⟩) hS (fun q _ hq => hq.1) (fun q hq => hq.1) (fun r1 u t H1 locs1 ht hvm hw hB hz hk1 hS1 => ?_)
  · rcases List.mem_cons.mp hw with rfl | hw
    · exact cde_L
    · exact hw
  · have y4 : (parseMethodDescriptor yL_element.desc).map (fun d => d.parameters.length) = some 4 := by decide +kernel
    rw [hsg] at y4; exact (Option.some.inj y4).symm
  have hw : r1 = Int32.ofInt k := hw
  subst hw
  have hP1 : va_P D vwCl (ws_w (G0_ s.heap.size D ca) (mE_ M k r)) H1 := by rw [← ht]; exact hB
  have hokE : ok_m (mE_ M k r) := by
    unfold mE_
    split
    · exact ok_st hM hr9
    · exact hM
  have fin : V_ K_L (Xc_ p l e s m b below meth c (cc + 1) (oo + 6)) (G0_ s.heap.size D ca) (lw_Z below #[Value.ref b] s) (mE_ M k r) 1553 (LV_ s.heap.size b j) [iv_i k] := by
    refine V_istore (lv' := (5, iv_i k) :: LV_ s.heap.size b j) C' d_L_1553 (by decide) rfl ?_
    refine V_aload_n (j := 3) C' d_L_1555 rfl rfl ?_
    refine V_arg2 (k := 1) (p0 := 5) (p4 := 1) C' hX' (by omega) rfl (by decide) rfl rfl d_L_1556 d_L_1557 d_L_1559 d_L_1560 d_L_1561 ?_
    refine V_arg2 (k := 2) (p0 := 5) (p4 := 1) C' hX' (by omega) rfl (by decide) rfl rfl d_L_1562 d_L_1563 d_L_1565 d_L_1566 d_L_1567 ?_
    refine V_callVwl (K' := K_X12_element) (a := 592) (ci := 12) (av := [iv_i (sx_ xs j 1), iv_i (sx_ xs j 2)]) (rest := []) (F := some) yi_X12_element (by decide) rfl C' yk_X12_element l1_L_177 (by decide) d_L_1568 (fun v hv => ct_X12_element 592 (sx_ xs j 1) (sx_ xs j 2) (ok_I _) (ok_I _) hv) rfl rfl (Nat.le_of_ble_eq_true rfl) (vb_m h2) (fun v hv => ?_)
    cases hv
    refine V_lstore (lv' := (6, jv_i v) :: (5, iv_i k) :: LV_ s.heap.size b j) C' d_L_1571 (by decide) rfl ?_
    refine V_aload_n (j := 4) C' d_L_1573 rfl rfl ?_
    refine V_callVri (K' := K_X12_thrown) (a := 592) (ci := 12) (av := []) (rest := []) (F := some) yi_X12_thrown (by decide) rfl C' yk_X12_thrown l1_L_178 (by decide) d_L_1574 (fun v hv => ct_X12_thrown 592 hv) rfl rfl (Nat.le_of_ble_eq_true rfl) (vb_m h3) (fun v9 ok9 hv => ?_)
    cases hv
    refine V_iload (j := 1) C' d_L_1577 rfl ?_
    refine V_icmp_eq (tgt := 1584) (o1 := some ()) (o2 := none) (z := ()) C' d_L_1579 (by decide) hk hk (if_pos rfl) (fun _ => ?_) (fun h => nomatch h)
    refine V_iload (j := 1) C' d_L_1584 rfl ?_
    have out : V_ K_L (Xc_ p l e s m b below meth c (cc + 1) (oo + 6)) (G0_ s.heap.size D ca) (lw_Z below #[Value.ref b] s) M2 1600 ((6, jv_i v) :: (5, iv_i k) :: LV_ s.heap.size b j) [] := by
      refine V_goto (tgt := 1726) C' d_L_1600 (by decide) ?_
      exact V_lv [2, 3, 4, 5, 6] rfl (kk M2 h5)
    by_cases hk0 : k = 0
    · refine V_if_ne (tgt := 1600) (o1 := some ()) (o2 := none) (z := ()) C' d_L_1586 (by decide) hk (if_pos hk0) (fun _ => ?_) (fun h => nomatch h)
      obtain ⟨e1, e2⟩ := h4 hk0
      refine V_aload_n (j := 3) C' d_L_1589 rfl rfl ?_
      refine V_iconst C' d_L_1590 ?_
      refine V_lald (a := 611) (N := 1) C' d_L_1591 (show 611 < 612 by decide) rfl ok_0 (by decide) (by decide) ?_
      have e3 : (M2, v).fst 611 (Int.toNat 0) = v := by show M2 611 0 = v; rw [e2, e1]
      rw [e3]
      refine V_lload (j := 0) C' d_L_1592 rfl ?_
      refine V_lcmp C' d_L_1594 hv9 hv9 ?_
      refine V_if_eq (tgt := 1600) (o1 := some ()) (o2 := none) (z := ()) C' d_L_1595 (by decide) (ok_lg _ _) (if_pos (by rw [if_neg (by omega), if_neg (by omega)])) (fun _ => ?_) (fun h => nomatch h)
      exact out
    · refine V_if_ne (tgt := 1600) (o1 := none) (o2 := some ()) (z := ()) C' d_L_1586 (by decide) hk (if_neg hk0) (fun h => nomatch h) (fun _ => ?_)
      exact out
  exact fin hokE H1 locs1 ls hP1 hS1 hl
