/-! the contract of TongueBook.element: it answers, or throws one of two -/
def QL_e (G : GT_g) (M : Mem_m) (k r : Int) : Array Value → State → Outcome → State → Prop := va_Ql (S := Unit) (fun v _ => k = 0 ∧ v = Int64.ofInt r) (fun _ t => va_P G.2.1 vwCl (ws_w G M) t.heap) (fr_w G)
def XC_e (G : GT_g) (M : Mem_m) (k : Int) : String → State → State → Prop := vx_X (S := Unit) (fun _ => True) (fun E _ t => ((k = 1 ∧ E = "java/lang/IllegalArgumentException") ∨ (k = 2 ∧ E = "java/lang/IllegalStateException")) ∧ va_P G.2.1 vwCl (ws_w G M) t.heap) (fr_w G)
def Re_ (X : XT_x) (G : GT_g) : Prop := (x_h X).sig.returnType = some .long ∧ (x_h X).locks = false ∧ x_A X = fr_w G ∧ x_n X = 0 ∧ x_o X = 0 ∧ (∀ x ∈ (x_c X).exceptionTable.toList, False) ∧ Ex_ G (x_s X) ∧ (x_l X).stackTraces = false ∧ 1 ≤ (x_R X).cells ∧ 6 ≤ (x_R X).slots
set_option maxHeartbeats 4000000 in
set_option maxRecDepth 100000 in
theorem V_throw {X : XT_x} {G : GT_g} {M : Mem_m} {k r : Int} {pc ik is ic sa : Nat} {lv : List (Nat × Value)} {cls text : String} (C : Cx_ K_el X G) (hR : Re_ X G) (hcls : Bundle.fit cls = true) (hk : Cond.classLink RX11 ik cls ∈ TB_t) (hini : Cond.initialized cls ∈ TB_t) (hstr : vk_R RX11 is text sa (x_s X))
    (hat : ∀ w ∈ vx_atS RX11 ic cls ["java/lang/RuntimeException", "java/lang/Exception"], w.before (x_a X) (x_s X) = true) (hgood : ∀ w ∈ Cond.classLink RX11 ik cls :: Cond.initialized cls :: vx_atS RX11 ic cls ["java/lang/RuntimeException", "java/lang/Exception"], vx_ot w = true)
    (d0 : decode K_el.1 pc = .ok (.new ik, 3)) (d3 : decode K_el.1 (pc + 3) = .ok (.dup, 1)) (d4 : decode K_el.1 (pc + 4) = .ok (.ldc_w is, 3)) (d7 : decode K_el.1 (pc + 7) = .ok (.invokespecial ic, 3)) (d10 : decode K_el.1 (pc + 10) = .ok (.athrow, 1))
    (hE : (k = 1 ∧ cls = "java/lang/IllegalArgumentException") ∨ (k = 2 ∧ cls = "java/lang/IllegalStateException")) :
    V_ K_el X G (vx_MQ (x_b X) (QL_e G M k r) (XC_e G M k) (x_a X) (x_s X) 1 6 (fr_w G)) M pc lv [] := by
  intro hM H locs ls hP hS hl
  obtain ⟨r1, r2, r3, r4, r5, r6, r7, r8, r9, r10⟩ := hR
  obtain ⟨c1, c2, c3, c4, c5, c6, ⟨c7, c8, -, -⟩, -⟩ := C
  obtain ⟨-, -, -, -, -, z1, z2⟩ := r7
  rw [r3] at hS
  rw [r4, r5]
  refine vx_throwSW c1 c2 r8 c4 hcls (fun n hn => ?_) (c5 _ hk) (c5 _ hini) hstr hat hgood (z1.narrow fun q hq => hq.1) (z2.narrow fun q hq => hq.1) hS (by rw [c3]; exact hl.1) d0 d3 d4 d7 d10 (fun x hx => (r6 x hx).elim) ?_ ?_ (by omega) (by omega) r2 (fun t ha hz hq => ?_) hS.2.2 (Nat.le_refl _) (Nat.le_refl _)
  · rcases List.mem_cons.mp hn with rfl | hn
    · decide
    · rcases List.mem_cons.mp hn with rfl | hn
      · decide
      · exact absurd hn List.not_mem_nil
  · have h12 : 12 ≤ (x_R X).frames := c7
    show 2 + 3 < _
    omega
  · have h40 : 40 * 12 ≤ (x_R X).locals := c8
    show 0 + (13 * 3 + 43) ≤ _
    omega
  · refine ⟨(), trivial, ⟨hE, hP.kept fun k9 q9 h9 => hq q9.1 ((hP k9 q9 h9).lt)⟩, Nat.le_trans hS.1 hz, fun q h1 h2 => ?_⟩
    rw [hq q (Nat.lt_of_lt_of_le h1 hS.1)]
    exact hS.2.1 q h1 h2
theorem hat_1 {X : XT_x} {G : GT_g} (C : Cx_ K_el X G) (hR : Re_ X G) : ∀ w ∈ vx_atS RX11 353 "java/lang/IllegalArgumentException" ["java/lang/RuntimeException", "java/lang/Exception"], w.before (x_a X) (x_s X) = true :=
  vx_hat (B := DW_t) (fun w hw => C.2.2.2.2.1 _ (ewd_good ewd_1 w hw)) ewd_3 (fun w hw => by
    have h := hR.2.2.2.2.2.2.1.2.2.2.2.1 w hw
    rcases dw_cases hw with ⟨x, rfl⟩ | ⟨x, y, rfl⟩
    · exact va_Nw.use rfl h
    · exact va_Nw.use rfl h)
theorem hat_2 {X : XT_x} {G : GT_g} (C : Cx_ K_el X G) (hR : Re_ X G) : ∀ w ∈ vx_atS RX11 360 "java/lang/IllegalStateException" ["java/lang/RuntimeException", "java/lang/Exception"], w.before (x_a X) (x_s X) = true :=
  vx_hat (B := DW_t) (fun w hw => C.2.2.2.2.1 _ (ewd_good ewd_2 w hw)) ewd_4 (fun w hw => by
    have h := hR.2.2.2.2.2.2.1.2.2.2.2.1 w hw
    rcases dw_cases hw with ⟨x, rfl⟩ | ⟨x, y, rfl⟩
    · exact va_Nw.use rfl h
    · exact va_Nw.use rfl h)
set_option maxHeartbeats 4000000 in
set_option maxRecDepth 100000 in
theorem t_el {X : XT_x} {G : GT_g} {M : Mem_m} {z : Int × Int} (C : Cx_ K_el X G) (hR : Re_ X G) (x0 : Nat) (x1 x2 : Int) (o1 : ok_i x1) (o2 : ok_i x2) (h : el_f G.2.2.2 M x0 x1 x2 = some z) :
    V_ K_el X G (vx_MQ (x_b X) (QL_e G M z.1 z.2) (XC_e G M z.1) (x_a X) (x_s X) 1 6 (fr_w G)) M 0 [(0, .ref (G.1 + x0)), (1, iv_i x1), (2, iv_i x2)] [] := by
  unfold el_f at h
  obtain ⟨⟨s1, q1⟩, ⟨s2, q2⟩, ⟨s3, q3⟩, -⟩ := hR.2.2.2.2.2.2.1
  refine V_iload_n (j := 1) C d_X11_element_0 rfl rfl ?_
  refine V_bipush (v := 8) C d_X11_element_1 rfl ?_
  refine V_callSri (K' := K_X11_isIn) (av := [iv_i x1, iv_i 8]) (rest := []) ys_X11_isIn C yk_X11_isIn l1_X11_61 (by decide) d_X11_element_3 (fun v hv => ct_X11_isIn x1 8 o1 (okc rfl) hv) rfl rfl (Nat.le_of_ble_eq_true rfl) h (fun v1 ov1 h => ?_)
  refine V_if_ne (tgt := 20) C d_X11_element_6 (by decide) ov1 h (fun h => ?_) (fun h => ?_)
  · cases h
    exact V_throw C hR (by decide) ecl_RX11_349 eni_IllegalArgumentException q1 (hat_1 C hR) ewd_5 d_X11_element_9 d_X11_element_12 d_X11_element_13 d_X11_element_16 d_X11_element_19 (Or.inl ⟨rfl, rfl⟩)
  refine V_aload_n (j := 0) C d_X11_element_20 rfl rfl ?_
  refine V_getR C ck_11 fw_X11_21 d_X11_element_21 h (fun v2 h => ?_)
  refine V_iload_n (j := 1) C d_X11_element_24 rfl rfl ?_
  refine V_aald (t := 5) C tc_5 d_X11_element_25 o1 h (fun v3 h => ?_)
  refine V_callVri (K' := K_X9_refusalOfRow) (a := v3) (ci := 9) (av := []) (rest := []) yi_X9_refusalOfRow (by decide) rfl C yk_X9_refusalOfRow l1_X11_343 (by decide) d_X11_element_26 (fun v hv => ct_X9_refusalOfRow v3 hv) rfl rfl (Nat.le_of_ble_eq_true rfl) h (fun v4 ov4 h => ?_)
  refine V_if_eq (tgt := 43) C d_X11_element_29 (by decide) ov4 h (fun h => ?_) (fun h => by
    cases h
    exact V_throw C hR (by decide) ecl_RX11_356 eni_IllegalStateException q2 (hat_2 C hR) ewd_6 d_X11_element_32 d_X11_element_35 d_X11_element_36 d_X11_element_39 d_X11_element_42 (Or.inr ⟨rfl, rfl⟩))
  refine V_iload_n (j := 2) C d_X11_element_43 rfl rfl ?_
  refine V_aload_n (j := 0) C d_X11_element_44 rfl rfl ?_
  refine V_getR C ck_11 fw_X11_21 d_X11_element_45 h (fun v5 h => ?_)
  refine V_iload_n (j := 1) C d_X11_element_48 rfl rfl ?_
  refine V_aald (t := 5) C tc_5 d_X11_element_49 o1 h (fun v6 h => ?_)
  refine V_getI C ck_9 fw_X11_230 d_X11_element_50 h (fun v7 ov7 h => ?_)
  refine V_callSri (K' := K_X11_isIn) (av := [iv_i x2, iv_i v7]) (rest := []) ys_X11_isIn C yk_X11_isIn l1_X11_61 (by decide) d_X11_element_53 (fun v hv => ct_X11_isIn x2 v7 o2 ov7 hv) rfl rfl (Nat.le_of_ble_eq_true rfl) h (fun v8 ov8 h => ?_)
  refine V_if_ne (tgt := 70) C d_X11_element_56 (by decide) ov8 h (fun h => ?_) (fun h => ?_)
  · cases h
    exact V_throw C hR (by decide) ecl_RX11_356 eni_IllegalStateException q3 (hat_2 C hR) ewd_6 d_X11_element_59 d_X11_element_62 d_X11_element_63 d_X11_element_66 d_X11_element_69 (Or.inr ⟨rfl, rfl⟩)
  refine V_aload_n (j := 0) C d_X11_element_70 rfl rfl ?_
  refine V_getR C ck_11 fw_X11_21 d_X11_element_71 h (fun v9 h => ?_)
  refine V_iload_n (j := 1) C d_X11_element_74 rfl rfl ?_
  refine V_aald (t := 5) C tc_5 d_X11_element_75 o1 h (fun v10 h => ?_)
  refine V_getR C ck_9 fw_X11_227 d_X11_element_76 h (fun v11 h => ?_)
  refine V_iload_n (j := 2) C d_X11_element_79 rfl rfl ?_
  refine V_iald C d_X11_element_80 o2 h (fun v12 ov12 h => ?_)
  refine V_i2l C d_X11_element_81 ov12 ?_
  cases h
  intro hM H locs ls hP hS hl
  obtain ⟨r1, r2, r3, r4, r5, -⟩ := hR
  rw [r3] at hS
  rw [r4, r5]
  refine vx_ret ?_
  refine W.widen (k := 1) (n := 6) (by omega) (by omega) ?_
  exact W.lret C.1 C.2.1 r1 (fun t ht hW => ⟨⟨_, (), rfl, ⟨rfl, rfl⟩, (by show va_P _ _ _ t.heap; rw [ht]; exact hP)⟩, hS.F ht⟩) hS.2.2 d_X11_element_82 r2
set_option maxHeartbeats 4000000 in
theorem ct_el {l : Launch} {G : GT_g} {M : Mem_m} {z : Int × Int} (hst : l.stackTraces = false) (x0 : Nat) (x1 x2 : Int) (o1 : ok_i x1) (o2 : ok_i x2) (h : el_f G.2.2.2 M x0 x1 x2 = some z) :
    vx_Met l yX11_element (.code yX11_element cX11_element 3 (some .long) :: TB_t) (rm_n 12 1 6) (va_Pc [.ref (G.1 + x0), iv_i x1, iv_i x2] (Pe_ G M)) (QL_e G M z.1 z.2) (XC_e G M z.1) 1 6 (fr_w G) := by
  refine vx_ofW (cc := cX11_element) (maxL := 3) (ret := some .long) (by decide) rfl ?_
  intro p e s m args below meth c s₁ B hml htab hv
  obtain ⟨rfl, ⟨hM, hP, hK⟩, hE⟩ := hv
  have hts := atoms_spec (ws := .code yX11_element cX11_element 3 (some .long) :: TB_t) B.pre
  have hown : s.vm.findClass RX11 = some m.cls := findClass_of_methodNamed B.named
  rw [lg_entry_eq]
  have hh := t_el (X := (p, l, e, (headSpec (.code yX11_element cX11_element 3 (some .long) :: TB_t) (rm_n 12 1 6)).room, s, m, #[.ref (G.1 + x0), iv_i x1, iv_i x2], below, meth, c, (0, 0), fr_w G)) (G := G) (M := M) (z := z)
    ⟨B.exec, B.bytes, hml, hown, fun w hw => hts w (List.mem_cons_of_mem _ hw), hK, ⟨Nat.le_refl _, Nat.le_refl _, Nat.zero_le _, Nat.zero_le _⟩, fun _ h => h⟩
    ⟨B.returns, B.notSynchronized, rfl, rfl, rfl, htab, hE, hst, Nat.le_refl _, Nat.le_refl _⟩ x0 x1 x2 o1 o2 h
  exact hh hM s.heap [] _ hP va_S.rf (lv_entry [.ref (G.1 + x0), iv_i x1, iv_i x2] (n := 3) (Nat.le_of_ble_eq_true rfl))
