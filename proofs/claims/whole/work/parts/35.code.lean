theorem d_X11_fits_0 : decode cX11_fits 0 = .ok (.iload_n 1, 1) := by decide +kernel
theorem d_X11_fits_1 : decode cX11_fits 1 = .ok (.bipush 8, 2) := by decide +kernel
theorem d_X11_fits_3 : decode cX11_fits 3 = .ok (.invokestatic 61, 3) := by decide +kernel
theorem d_X11_fits_6 : decode cX11_fits 6 = .ok (.ifCond .eq 12, 3) := by decide +kernel
theorem d_X11_fits_9 : decode cX11_fits 9 = .ok (.iload_n 2, 1) := by decide +kernel
theorem d_X11_fits_10 : decode cX11_fits 10 = .ok (.bipush 24, 2) := by decide +kernel
theorem d_X11_fits_12 : decode cX11_fits 12 = .ok (.invokestatic 61, 3) := by decide +kernel
theorem d_X11_fits_15 : decode cX11_fits 15 = .ok (.ifCond .ne 5, 3) := by decide +kernel
theorem d_X11_fits_18 : decode cX11_fits 18 = .ok (.iconst (-1), 1) := by decide +kernel
theorem d_X11_fits_19 : decode cX11_fits 19 = .ok (.ireturn, 1) := by decide +kernel
theorem d_X11_fits_20 : decode cX11_fits 20 = .ok (.aload_n 0, 1) := by decide +kernel
theorem d_X11_fits_21 : decode cX11_fits 21 = .ok (.getfield 21, 3) := by decide +kernel
theorem d_X11_fits_24 : decode cX11_fits 24 = .ok (.iload_n 1, 1) := by decide +kernel
theorem d_X11_fits_25 : decode cX11_fits 25 = .ok (.aaload, 1) := by decide +kernel
theorem d_X11_fits_26 : decode cX11_fits 26 = .ok (.invokestatic 223, 3) := by decide +kernel
theorem d_X11_fits_29 : decode cX11_fits 29 = .ok (.istore_n 3, 1) := by decide +kernel
theorem d_X11_fits_30 : decode cX11_fits 30 = .ok (.iload_n 3, 1) := by decide +kernel
theorem d_X11_fits_31 : decode cX11_fits 31 = .ok (.ifCond .eq 5, 3) := by decide +kernel
theorem d_X11_fits_34 : decode cX11_fits 34 = .ok (.iload_n 3, 1) := by decide +kernel
theorem d_X11_fits_35 : decode cX11_fits 35 = .ok (.ireturn, 1) := by decide +kernel
theorem d_X11_fits_36 : decode cX11_fits 36 = .ok (.aload_n 0, 1) := by decide +kernel
theorem d_X11_fits_37 : decode cX11_fits 37 = .ok (.getfield 42, 3) := by decide +kernel
theorem d_X11_fits_40 : decode cX11_fits 40 = .ok (.aload_n 0, 1) := by decide +kernel
theorem d_X11_fits_41 : decode cX11_fits 41 = .ok (.getfield 21, 3) := by decide +kernel
theorem d_X11_fits_44 : decode cX11_fits 44 = .ok (.iload_n 1, 1) := by decide +kernel
theorem d_X11_fits_45 : decode cX11_fits 45 = .ok (.aaload, 1) := by decide +kernel
theorem d_X11_fits_46 : decode cX11_fits 46 = .ok (.getfield 227, 3) := by decide +kernel
theorem d_X11_fits_49 : decode cX11_fits 49 = .ok (.aload_n 0, 1) := by decide +kernel
theorem d_X11_fits_50 : decode cX11_fits 50 = .ok (.getfield 21, 3) := by decide +kernel
theorem d_X11_fits_53 : decode cX11_fits 53 = .ok (.iload_n 1, 1) := by decide +kernel
theorem d_X11_fits_54 : decode cX11_fits 54 = .ok (.aaload, 1) := by decide +kernel
theorem d_X11_fits_55 : decode cX11_fits 55 = .ok (.getfield 230, 3) := by decide +kernel
theorem d_X11_fits_58 : decode cX11_fits 58 = .ok (.invokevirtual 231, 3) := by decide +kernel
theorem d_X11_fits_61 : decode cX11_fits 61 = .ok (.iload_n 2, 1) := by decide +kernel
theorem d_X11_fits_62 : decode cX11_fits 62 = .ok (.ishr, 1) := by decide +kernel
theorem d_X11_fits_63 : decode cX11_fits 63 = .ok (.iconst 1, 1) := by decide +kernel
theorem d_X11_fits_64 : decode cX11_fits 64 = .ok (.iand, 1) := by decide +kernel
theorem d_X11_fits_65 : decode cX11_fits 65 = .ok (.ireturn, 1) := by decide +kernel
set_option maxHeartbeats 4000000 in
set_option maxRecDepth 100000 in
theorem t_X11_fits {X : XT_x} {G : GT_g} {M : Mem_m} {z : Int} (C : Cx_ (K_X11_fits) X G) (hR : Rx_ X G (some .int)) (x0 : Nat) (x1 : Int) (x2 : Int) (o_x1 : ok_i x1) (o_x2 : ok_i x2) (h : f_X11_fits G.2.2.2 M x0 x1 x2 = some z) : V_ (K_X11_fits) X G (Fq_ X G (Qi_ G M z)) M 0 [(0, .ref (G.1 + x0)), (1, iv_i x1), (2, iv_i x2)] [] := by
  unfold f_X11_fits at h
  refine V_iload_n (j := 1) C d_X11_fits_0 rfl rfl ?_
  refine V_bipush (v := 8) C d_X11_fits_1 rfl ?_
  refine V_callSri (K' := K_X11_isIn) (av := [iv_i x1, iv_i 8]) (rest := []) ys_X11_isIn C (yk_X11_isIn) l1_X11_61 (by decide) d_X11_fits_3 (fun v hv => ct_X11_isIn x1 8 o_x1 (okc rfl) hv) rfl rfl (Nat.le_of_ble_eq_true rfl) h (fun v1 o1 h => ?_)
  refine V_if_eq (tgt := 18) C d_X11_fits_6 (by decide) o1 h (fun h => ?_) (fun h => ?_)
  · skip
    refine V_iconst C d_X11_fits_18 ?_
    exact V_iret_r C hR d_X11_fits_19 (okc rfl) h
  · skip
    refine V_iload_n (j := 2) C d_X11_fits_9 rfl rfl ?_
    refine V_bipush (v := 24) C d_X11_fits_10 rfl ?_
    refine V_callSri (K' := K_X11_isIn) (av := [iv_i x2, iv_i 24]) (rest := []) ys_X11_isIn C (yk_X11_isIn) l1_X11_61 (by decide) d_X11_fits_12 (fun v hv => ct_X11_isIn x2 24 o_x2 (okc rfl) hv) rfl rfl (Nat.le_of_ble_eq_true rfl) h (fun v2 o2 h => ?_)
    refine V_if_ne (tgt := 20) C d_X11_fits_15 (by decide) o2 h (fun h => ?_) (fun h => ?_)
    · skip
      refine V_iconst C d_X11_fits_18 ?_
      exact V_iret_r C hR d_X11_fits_19 (okc rfl) h
    · skip
      refine V_aload_n (j := 0) C d_X11_fits_20 rfl rfl ?_
      refine V_getR C ck_11 fw_X11_21 d_X11_fits_21 h (fun v3 h => ?_)
      refine V_iload_n (j := 1) C d_X11_fits_24 rfl rfl ?_
      refine V_aald (t := 5) C tc_5 d_X11_fits_25 o_x1 h (fun v4 h => ?_)
      refine V_callSri (K' := K_X11_refusalOfSaying) (av := [.ref (G.1 + v4)]) (rest := []) ys_X11_refusalOfSaying C (yk_X11_refusalOfSaying) l1_X11_223 (by decide) d_X11_fits_26 (fun v hv => ct_X11_refusalOfSaying v4 hv) rfl rfl (Nat.le_of_ble_eq_true rfl) h (fun v5 o5 h => ?_)
      refine V_istore_n (lv' := [(3, iv_i v5), (0, .ref (G.1 + x0)), (1, iv_i x1), (2, iv_i x2)]) C d_X11_fits_29 rfl (by decide) rfl ?_
      refine V_iload_n (j := 0) C d_X11_fits_30 rfl rfl ?_
      refine V_if_eq (tgt := 36) C d_X11_fits_31 (by decide) o5 h (fun h => ?_) (fun h => ?_)
      · skip
        refine V_aload_n (j := 1) C d_X11_fits_36 rfl rfl ?_
        refine V_getR C ck_11 fw_X11_42 d_X11_fits_37 h (fun v6 h => ?_)
        refine V_aload_n (j := 1) C d_X11_fits_40 rfl rfl ?_
        refine V_getR C ck_11 fw_X11_21 d_X11_fits_41 h (fun v7 h => ?_)
        refine V_iload_n (j := 2) C d_X11_fits_44 rfl rfl ?_
        refine V_aald (t := 5) C tc_5 d_X11_fits_45 o_x1 h (fun v8 h => ?_)
        refine V_getR C ck_9 fw_X11_227 d_X11_fits_46 h (fun v9 h => ?_)
        refine V_aload_n (j := 1) C d_X11_fits_49 rfl rfl ?_
        refine V_getR C ck_11 fw_X11_21 d_X11_fits_50 h (fun v10 h => ?_)
        refine V_iload_n (j := 2) C d_X11_fits_53 rfl rfl ?_
        refine V_aald (t := 5) C tc_5 d_X11_fits_54 o_x1 h (fun v11 h => ?_)
        refine V_getI C ck_9 fw_X11_230 d_X11_fits_55 h (fun v12 o12 h => ?_)
        refine V_callVri (K' := K_X6_fitting) (a := v6) (ci := 6) (av := [.ref (G.1 + v9), iv_i v12]) (rest := []) yi_X6_fitting (by decide) rfl C (yk_X6_fitting) l1_X11_231 (by decide) d_X11_fits_58 (fun v hv => ct_X6_fitting v6 v9 v12 o12 hv) rfl rfl (Nat.le_of_ble_eq_true rfl) h (fun v13 o13 h => ?_)
        refine V_iload_n (j := 3) C d_X11_fits_61 rfl rfl ?_
        refine V_ishr C d_X11_fits_62 ?_
        refine V_iconst C d_X11_fits_63 ?_
        refine V_iand C d_X11_fits_64 ?_
        exact V_iret_r C hR d_X11_fits_65 (ok_I _) h
      · skip
        refine V_iload_n (j := 0) C d_X11_fits_34 rfl rfl ?_
        exact V_iret_r C hR d_X11_fits_35 o5 h
set_option maxHeartbeats 4000000 in
set_option maxRecDepth 100000 in
theorem ct_X11_fits {l : Launch} {G : GT_g} {M : Mem_m} (x0 : Nat) (x1 : Int) (x2 : Int) (o_x1 : ok_i x1) (o_x2 : ok_i x2) {z : Int} (h : f_X11_fits G.2.2.2 M x0 x1 x2 = some z) : MI_ l yX11_fits K_X11_fits (some .int) G M [.ref (G.1 + x0), iv_i x1, iv_i x2] M z :=
  met_of (by decide +kernel) rfl (Nat.le_of_ble_eq_true rfl) (fun X hl C hR => by subst hl; exact t_X11_fits C hR x0 x1 x2 o_x1 o_x2 h)
theorem d_X11_ask_0 : decode cX11_ask 0 = .ok (.iload_n 1, 1) := by decide +kernel
theorem d_X11_ask_1 : decode cX11_ask 1 = .ok (.invokestatic 247, 3) := by decide +kernel
theorem d_X11_ask_4 : decode cX11_ask 4 = .ok (.ifCond .eq 11, 3) := by decide +kernel
theorem d_X11_ask_7 : decode cX11_ask 7 = .ok (.iload_n 2, 1) := by decide +kernel
theorem d_X11_ask_8 : decode cX11_ask 8 = .ok (.iconst 2, 1) := by decide +kernel
theorem d_X11_ask_9 : decode cX11_ask 9 = .ok (.invokestatic 61, 3) := by decide +kernel
theorem d_X11_ask_12 : decode cX11_ask 12 = .ok (.ifCond .ne 5, 3) := by decide +kernel
theorem d_X11_ask_15 : decode cX11_ask 15 = .ok (.iconst (-1), 1) := by decide +kernel
theorem d_X11_ask_16 : decode cX11_ask 16 = .ok (.ireturn, 1) := by decide +kernel
theorem d_X11_ask_17 : decode cX11_ask 17 = .ok (.aload_n 0, 1) := by decide +kernel
theorem d_X11_ask_18 : decode cX11_ask 18 = .ok (.getfield 10, 3) := by decide +kernel
theorem d_X11_ask_21 : decode cX11_ask 21 = .ok (.iload_n 1, 1) := by decide +kernel
theorem d_X11_ask_22 : decode cX11_ask 22 = .ok (.invokevirtual 250, 3) := by decide +kernel
theorem d_X11_ask_25 : decode cX11_ask 25 = .ok (.istore_n 3, 1) := by decide +kernel
theorem d_X11_ask_26 : decode cX11_ask 26 = .ok (.iload_n 3, 1) := by decide +kernel
theorem d_X11_ask_27 : decode cX11_ask 27 = .ok (.invokestatic 253, 3) := by decide +kernel
theorem d_X11_ask_30 : decode cX11_ask 30 = .ok (.iconst 2, 1) := by decide +kernel
theorem d_X11_ask_31 : decode cX11_ask 31 = .ok (.if_icmp .ge 6, 3) := by decide +kernel
theorem d_X11_ask_34 : decode cX11_ask 34 = .ok (.bipush (-4), 2) := by decide +kernel
theorem d_X11_ask_36 : decode cX11_ask 36 = .ok (.ireturn, 1) := by decide +kernel
theorem d_X11_ask_37 : decode cX11_ask 37 = .ok (.aload_n 0, 1) := by decide +kernel
theorem d_X11_ask_38 : decode cX11_ask 38 = .ok (.getfield 42, 3) := by decide +kernel
theorem d_X11_ask_41 : decode cX11_ask 41 = .ok (.iload_n 3, 1) := by decide +kernel
theorem d_X11_ask_42 : decode cX11_ask 42 = .ok (.invokevirtual 258, 3) := by decide +kernel
theorem d_X11_ask_45 : decode cX11_ask 45 = .ok (.iload_n 2, 1) := by decide +kernel
theorem d_X11_ask_46 : decode cX11_ask 46 = .ok (.ifCond .ne 13, 3) := by decide +kernel
theorem d_X11_ask_49 : decode cX11_ask 49 = .ok (.aload_n 0, 1) := by decide +kernel
theorem d_X11_ask_50 : decode cX11_ask 50 = .ok (.getfield 42, 3) := by decide +kernel
theorem d_X11_ask_53 : decode cX11_ask 53 = .ok (.getfield 262, 3) := by decide +kernel
theorem d_X11_ask_56 : decode cX11_ask 56 = .ok (.goto 10, 3) := by decide +kernel
theorem d_X11_ask_59 : decode cX11_ask 59 = .ok (.aload_n 0, 1) := by decide +kernel
theorem d_X11_ask_60 : decode cX11_ask 60 = .ok (.getfield 42, 3) := by decide +kernel
theorem d_X11_ask_63 : decode cX11_ask 63 = .ok (.getfield 265, 3) := by decide +kernel
theorem d_X11_ask_66 : decode cX11_ask 66 = .ok (.ireturn, 1) := by decide +kernel
set_option maxHeartbeats 4000000 in
set_option maxRecDepth 100000 in
theorem t_X11_ask {X : XT_x} {G : GT_g} {M : Mem_m} {z : (Mem_m × Int)} (C : Cx_ (K_X11_ask) X G) (hR : Rx_ X G (some .int)) (x0 : Nat) (x1 : Int) (x2 : Int) (o_x1 : ok_i x1) (o_x2 : ok_i x2) (h : f_X11_ask G.2.2.2 M x0 x1 x2 = some z) : V_ (K_X11_ask) X G (Fq_ X G (Qi_ G z.1 z.2)) M 0 [(0, .ref (G.1 + x0)), (1, iv_i x1), (2, iv_i x2)] [] := by
  unfold f_X11_ask at h
  refine V_iload_n (j := 1) C d_X11_ask_0 rfl rfl ?_
  refine V_callSri (K' := K_X11_isVillageOrAll) (av := [iv_i x1]) (rest := []) ys_X11_isVillageOrAll C (yk_X11_isVillageOrAll) l1_X11_247 (by decide) d_X11_ask_1 (fun v hv => ct_X11_isVillageOrAll x1 o_x1 hv) rfl rfl (Nat.le_of_ble_eq_true rfl) h (fun v1 o1 h => ?_)
  refine V_if_eq (tgt := 15) C d_X11_ask_4 (by decide) o1 h (fun h => ?_) (fun h => ?_)
  · skip
    refine V_iconst C d_X11_ask_15 ?_
    exact V_iret_w C hR d_X11_ask_16 (okc rfl) h
  · skip
    refine V_iload_n (j := 2) C d_X11_ask_7 rfl rfl ?_
    refine V_iconst C d_X11_ask_8 ?_
    refine V_callSri (K' := K_X11_isIn) (av := [iv_i x2, iv_i 2]) (rest := []) ys_X11_isIn C (yk_X11_isIn) l1_X11_61 (by decide) d_X11_ask_9 (fun v hv => ct_X11_isIn x2 2 o_x2 (okc rfl) hv) rfl rfl (Nat.le_of_ble_eq_true rfl) h (fun v2 o2 h => ?_)
    refine V_if_ne (tgt := 17) C d_X11_ask_12 (by decide) o2 h (fun h => ?_) (fun h => ?_)
    · skip
      refine V_iconst C d_X11_ask_15 ?_
      exact V_iret_w C hR d_X11_ask_16 (okc rfl) h
    · skip
      refine V_aload_n (j := 0) C d_X11_ask_17 rfl rfl ?_
      refine V_getR C ck_11 fw_X11_10 d_X11_ask_18 h (fun v3 h => ?_)
      refine V_iload_n (j := 1) C d_X11_ask_21 rfl rfl ?_
      refine V_callVri (K' := K_X0_setOfOrders) (a := v3) (ci := 0) (av := [iv_i x1]) (rest := []) yi_X0_setOfOrders (by decide) rfl C (yk_X0_setOfOrders) l1_X11_250 (by decide) d_X11_ask_22 (fun v hv => ct_X0_setOfOrders v3 x1 o_x1 hv) rfl rfl (Nat.le_of_ble_eq_true rfl) h (fun v4 o4 h => ?_)
      refine V_istore_n (lv' := [(3, iv_i v4), (0, .ref (G.1 + x0)), (1, iv_i x1), (2, iv_i x2)]) C d_X11_ask_25 rfl (by decide) rfl ?_
      refine V_iload_n (j := 0) C d_X11_ask_26 rfl rfl ?_
      refine V_callSri (K' := K_J6_bitCount_0f7a4) (av := [iv_i v4]) (rest := []) ys_J6_bitCount_0f7a4 C (yk_J6_bitCount_0f7a4) l1_X11_253 (by decide) d_X11_ask_27 (fun v hv => ct_J6_bitCount_0f7a4 v4 o4 hv) rfl rfl (Nat.le_of_ble_eq_true rfl) h (fun v5 o5 h => ?_)
      refine V_iconst C d_X11_ask_30 ?_
      refine V_icmp_ge (tgt := 37) C d_X11_ask_31 (by decide) o5 (okc rfl) h (fun h => ?_) (fun h => ?_)
      · skip
        refine V_bipush (v := (-4)) C d_X11_ask_34 rfl ?_
        exact V_iret_w C hR d_X11_ask_36 (okc rfl) h
      · skip
        refine V_aload_n (j := 1) C d_X11_ask_37 rfl rfl ?_
        refine V_getR C ck_11 fw_X11_42 d_X11_ask_38 h (fun v6 h => ?_)
        refine V_iload_n (j := 0) C d_X11_ask_41 rfl rfl ?_
        refine V_callVwv (K' := K_X6_findAsk) (a := v6) (ci := 6) (av := [iv_i v4]) (rest := []) yi_X6_findAsk (by decide) rfl C (yk_X6_findAsk) l1_X11_258 (by decide) d_X11_ask_42 (fun v hv => ct_X6_findAsk v6 v4 o4 hv) rfl rfl (Nat.le_of_ble_eq_true rfl) h (fun M7 h => ?_)
        refine V_iload_n (j := 3) C d_X11_ask_45 rfl rfl ?_
        refine V_if_ne (tgt := 59) C d_X11_ask_46 (by decide) o_x2 h (fun h => ?_) (fun h => ?_)
        · skip
          refine V_aload_n (j := 1) C d_X11_ask_49 rfl rfl ?_
          refine V_getR C ck_11 fw_X11_42 d_X11_ask_50 h (fun v8 h => ?_)
          refine V_getI C ck_6 fw_X11_262 d_X11_ask_53 h (fun v9 o9 h => ?_)
          refine V_goto (tgt := 66) C d_X11_ask_56 (by decide) ?_
          exact V_iret_w C hR d_X11_ask_66 o9 h
        · skip
          refine V_aload_n (j := 1) C d_X11_ask_59 rfl rfl ?_
          refine V_getR C ck_11 fw_X11_42 d_X11_ask_60 h (fun v10 h => ?_)
          refine V_getI C ck_6 fw_X11_265 d_X11_ask_63 h (fun v11 o11 h => ?_)
          exact V_iret_w C hR d_X11_ask_66 o11 h
set_option maxHeartbeats 4000000 in
set_option maxRecDepth 100000 in
theorem ct_X11_ask {l : Launch} {G : GT_g} {M : Mem_m} (x0 : Nat) (x1 : Int) (x2 : Int) (o_x1 : ok_i x1) (o_x2 : ok_i x2) {z : (Mem_m × Int)} (h : f_X11_ask G.2.2.2 M x0 x1 x2 = some z) : MI_ l yX11_ask K_X11_ask (some .int) G M [.ref (G.1 + x0), iv_i x1, iv_i x2] z.1 z.2 :=
  met_of (by decide +kernel) rfl (Nat.le_of_ble_eq_true rfl) (fun X hl C hR => by subst hl; exact t_X11_ask C hR x0 x1 x2 o_x1 o_x2 h)
theorem d_X11_who_0 : decode cX11_who 0 = .ok (.iload_n 1, 1) := by decide +kernel
theorem d_X11_who_1 : decode cX11_who 1 = .ok (.iconst 4, 1) := by decide +kernel
theorem d_X11_who_2 : decode cX11_who 2 = .ok (.invokestatic 61, 3) := by decide +kernel
theorem d_X11_who_5 : decode cX11_who 5 = .ok (.ifCond .eq 13, 3) := by decide +kernel
theorem d_X11_who_8 : decode cX11_who 8 = .ok (.iload_n 2, 1) := by decide +kernel
theorem d_X11_who_9 : decode cX11_who 9 = .ok (.sipush 1000, 3) := by decide +kernel
theorem d_X11_who_12 : decode cX11_who 12 = .ok (.invokestatic 61, 3) := by decide +kernel
theorem d_X11_who_15 : decode cX11_who 15 = .ok (.ifCond .ne 5, 3) := by decide +kernel
theorem d_X11_who_18 : decode cX11_who 18 = .ok (.iconst (-1), 1) := by decide +kernel
theorem d_X11_who_19 : decode cX11_who 19 = .ok (.ireturn, 1) := by decide +kernel
theorem d_X11_who_20 : decode cX11_who 20 = .ok (.bipush (-4), 2) := by decide +kernel
theorem d_X11_who_22 : decode cX11_who 22 = .ok (.istore_n 3, 1) := by decide +kernel
theorem d_X11_who_23 : decode cX11_who 23 = .ok (.bipush 21, 2) := by decide +kernel
theorem d_X11_who_25 : decode cX11_who 25 = .ok (.istore 4, 2) := by decide +kernel
theorem d_X11_who_27 : decode cX11_who 27 = .ok (.iconst 0, 1) := by decide +kernel
theorem d_X11_who_28 : decode cX11_who 28 = .ok (.istore 5, 2) := by decide +kernel
theorem d_X11_who_30 : decode cX11_who 30 = .ok (.iload 5, 2) := by decide +kernel
theorem d_X11_who_32 : decode cX11_who 32 = .ok (.bipush 8, 2) := by decide +kernel
theorem d_X11_who_34 : decode cX11_who 34 = .ok (.if_icmp .ge 61, 3) := by decide +kernel
theorem d_X11_who_37 : decode cX11_who 37 = .ok (.aload_n 0, 1) := by decide +kernel
theorem d_X11_who_38 : decode cX11_who 38 = .ok (.getfield 10, 3) := by decide +kernel
theorem d_X11_who_41 : decode cX11_who 41 = .ok (.iload 5, 2) := by decide +kernel
theorem d_X11_who_43 : decode cX11_who 43 = .ok (.invokevirtual 268, 3) := by decide +kernel
theorem d_X11_who_46 : decode cX11_who 46 = .ok (.istore 6, 2) := by decide +kernel
theorem d_X11_who_48 : decode cX11_who 48 = .ok (.aload_n 0, 1) := by decide +kernel
theorem d_X11_who_49 : decode cX11_who 49 = .ok (.getfield 10, 3) := by decide +kernel
theorem d_X11_who_52 : decode cX11_who 52 = .ok (.getfield 122, 3) := by decide +kernel
theorem d_X11_who_55 : decode cX11_who 55 = .ok (.iload 5, 2) := by decide +kernel
theorem d_X11_who_57 : decode cX11_who 57 = .ok (.iaload, 1) := by decide +kernel
theorem d_X11_who_58 : decode cX11_who 58 = .ok (.iload_n 1, 1) := by decide +kernel
theorem d_X11_who_59 : decode cX11_who 59 = .ok (.if_icmp .ne 30, 3) := by decide +kernel
theorem d_X11_who_62 : decode cX11_who 62 = .ok (.iload 6, 2) := by decide +kernel
theorem d_X11_who_64 : decode cX11_who 64 = .ok (.iload 4, 2) := by decide +kernel
theorem d_X11_who_66 : decode cX11_who 66 = .ok (.if_icmp .ge 23, 3) := by decide +kernel
theorem d_X11_who_69 : decode cX11_who 69 = .ok (.aload_n 0, 1) := by decide +kernel
theorem d_X11_who_70 : decode cX11_who 70 = .ok (.getfield 10, 3) := by decide +kernel
theorem d_X11_who_73 : decode cX11_who 73 = .ok (.iload 5, 2) := by decide +kernel
theorem d_X11_who_75 : decode cX11_who 75 = .ok (.iload_n 2, 1) := by decide +kernel
theorem d_X11_who_76 : decode cX11_who 76 = .ok (.invokevirtual 271, 3) := by decide +kernel
theorem d_X11_who_79 : decode cX11_who 79 = .ok (.ifCond .eq 10, 3) := by decide +kernel
theorem d_X11_who_82 : decode cX11_who 82 = .ok (.iload 5, 2) := by decide +kernel
theorem d_X11_who_84 : decode cX11_who 84 = .ok (.istore_n 3, 1) := by decide +kernel
theorem d_X11_who_85 : decode cX11_who 85 = .ok (.iload 6, 2) := by decide +kernel
theorem d_X11_who_87 : decode cX11_who 87 = .ok (.istore 4, 2) := by decide +kernel
theorem d_X11_who_89 : decode cX11_who 89 = .ok (.iinc 5 1, 3) := by decide +kernel
theorem d_X11_who_92 : decode cX11_who 92 = .ok (.goto (-62), 3) := by decide +kernel
theorem d_X11_who_95 : decode cX11_who 95 = .ok (.iload_n 3, 1) := by decide +kernel
theorem d_X11_who_96 : decode cX11_who 96 = .ok (.ireturn, 1) := by decide +kernel
set_option maxHeartbeats 4000000 in
set_option maxRecDepth 100000 in
theorem t_X11_who_30 {X : XT_x} {G : GT_g} {z : Int} (C : Cx_ (K_X11_who) X G) (hR : Rx_ X G (some .int)) (M : Mem_m) (x0 : Nat) (x1 : Int) (x2 : Int) (o_x1 : ok_i x1) (o_x2 : ok_i x2) : ∀ (n : Nat) (x3 : Int) (x4 : Int) (x5 : Int) (o_x3 : ok_i x3) (o_x4 : ok_i x4) (o_x5 : ok_i x5), f_X11_who_30 G.2.2.2 M x0 x1 x2 n x3 x4 x5 = some z → V_ (K_X11_who) X G (Fq_ X G (Qi_ G M z)) M 30 [(0, .ref (G.1 + x0)), (1, iv_i x1), (2, iv_i x2), (3, iv_i x3), (4, iv_i x4), (5, iv_i x5)] [] := by
  intro n
  induction n with
  | zero => intro x3 x4 x5 o_x3 o_x4 o_x5 h; exact absurd h (by simp [f_X11_who_30])
  | succ n ih =>
    intro x3 x4 x5 o_x3 o_x4 o_x5 h
    unfold f_X11_who_30 at h
    refine V_iload (j := 5) C d_X11_who_30 rfl ?_
    refine V_bipush (v := 8) C d_X11_who_32 rfl ?_
    refine V_icmp_ge (tgt := 95) C d_X11_who_34 (by decide) o_x5 (okc rfl) h (fun h => ?_) (fun h => ?_)
    · skip
      refine V_aload_n (j := 0) C d_X11_who_37 rfl rfl ?_
      refine V_getR C ck_11 fw_X11_10 d_X11_who_38 h (fun v1 h => ?_)
      refine V_iload (j := 5) C d_X11_who_41 rfl ?_
      refine V_callVri (K' := K_X0_saidBy) (a := v1) (ci := 0) (av := [iv_i x5]) (rest := []) yi_X0_saidBy (by decide) rfl C (yk_X0_saidBy) l1_X11_268 (by decide) d_X11_who_43 (fun v hv => ct_X0_saidBy v1 x5 o_x5 hv) rfl rfl (Nat.le_of_ble_eq_true rfl) h (fun v2 o2 h => ?_)
      refine V_istore (lv' := [(6, iv_i v2), (0, .ref (G.1 + x0)), (1, iv_i x1), (2, iv_i x2), (3, iv_i x3), (4, iv_i x4), (5, iv_i x5)]) C d_X11_who_46 (by decide) rfl ?_
      refine V_aload_n (j := 1) C d_X11_who_48 rfl rfl ?_
      refine V_getR C ck_11 fw_X11_10 d_X11_who_49 h (fun v3 h => ?_)
      refine V_getR C ck_0 fw_X11_122 d_X11_who_52 h (fun v4 h => ?_)
      refine V_iload (j := 6) C d_X11_who_55 rfl ?_
      refine V_iald C d_X11_who_57 o_x5 h (fun v5 o5 h => ?_)
      refine V_iload_n (j := 2) C d_X11_who_58 rfl rfl ?_
      refine V_icmp_ne (tgt := 89) C d_X11_who_59 (by decide) o5 o_x1 h (fun h => ?_) (fun h => ?_)
      · skip
        refine V_iload (j := 0) C d_X11_who_62 rfl ?_
        refine V_iload (j := 5) C d_X11_who_64 rfl ?_
        refine V_icmp_ge (tgt := 89) C d_X11_who_66 (by decide) o2 o_x4 h (fun h => ?_) (fun h => ?_)
        · skip
          refine V_aload_n (j := 1) C d_X11_who_69 rfl rfl ?_
          refine V_getR C ck_11 fw_X11_10 d_X11_who_70 h (fun v6 h => ?_)
          refine V_iload (j := 6) C d_X11_who_73 rfl ?_
          refine V_iload_n (j := 3) C d_X11_who_75 rfl rfl ?_
          refine V_callVri (K' := K_X0_isRested) (a := v6) (ci := 0) (av := [iv_i x5, iv_i x2]) (rest := []) yi_X0_isRested (by decide) rfl C (yk_X0_isRested) l1_X11_271 (by decide) d_X11_who_76 (fun v hv => ct_X0_isRested v6 x5 x2 o_x5 o_x2 hv) rfl rfl (Nat.le_of_ble_eq_true rfl) h (fun v7 o7 h => ?_)
          refine V_if_eq (tgt := 89) C d_X11_who_79 (by decide) o7 h (fun h => ?_) (fun h => ?_)
          · skip
            refine V_iinc (j := 6) (lv' := [(5, iv_i (wr_i (x5 + 1))), (6, iv_i v2), (0, .ref (G.1 + x0)), (1, iv_i x1), (2, iv_i x2), (3, iv_i x3), (4, iv_i x4)]) C d_X11_who_89 rfl (by decide) rfl ?_
            refine V_goto (tgt := 30) C d_X11_who_92 (by decide) ?_
            refine V_lv [2, 3, 4, 5, 6, 0] rfl (ih x3 x4 (wr_i (x5 + 1)) o_x3 o_x4 (ok_wr _) h)
          · skip
            refine V_iload (j := 6) C d_X11_who_82 rfl ?_
            refine V_istore_n (lv' := [(3, iv_i x5), (6, iv_i v2), (0, .ref (G.1 + x0)), (1, iv_i x1), (2, iv_i x2), (4, iv_i x4), (5, iv_i x5)]) C d_X11_who_84 rfl (by decide) rfl ?_
            refine V_iload (j := 1) C d_X11_who_85 rfl ?_
            refine V_istore (lv' := [(4, iv_i v2), (3, iv_i x5), (6, iv_i v2), (0, .ref (G.1 + x0)), (1, iv_i x1), (2, iv_i x2), (5, iv_i x5)]) C d_X11_who_87 (by decide) rfl ?_
            refine V_iinc (j := 6) (lv' := [(5, iv_i (wr_i (x5 + 1))), (4, iv_i v2), (3, iv_i x5), (6, iv_i v2), (0, .ref (G.1 + x0)), (1, iv_i x1), (2, iv_i x2)]) C d_X11_who_89 rfl (by decide) rfl ?_
            refine V_goto (tgt := 30) C d_X11_who_92 (by decide) ?_
            refine V_lv [4, 5, 6, 2, 1, 0] rfl (ih x5 v2 (wr_i (x5 + 1)) o_x5 o2 (ok_wr _) h)
        · skip
          refine V_iinc (j := 6) (lv' := [(5, iv_i (wr_i (x5 + 1))), (6, iv_i v2), (0, .ref (G.1 + x0)), (1, iv_i x1), (2, iv_i x2), (3, iv_i x3), (4, iv_i x4)]) C d_X11_who_89 rfl (by decide) rfl ?_
          refine V_goto (tgt := 30) C d_X11_who_92 (by decide) ?_
          refine V_lv [2, 3, 4, 5, 6, 0] rfl (ih x3 x4 (wr_i (x5 + 1)) o_x3 o_x4 (ok_wr _) h)
      · skip
        refine V_iinc (j := 6) (lv' := [(5, iv_i (wr_i (x5 + 1))), (6, iv_i v2), (0, .ref (G.1 + x0)), (1, iv_i x1), (2, iv_i x2), (3, iv_i x3), (4, iv_i x4)]) C d_X11_who_89 rfl (by decide) rfl ?_
        refine V_goto (tgt := 30) C d_X11_who_92 (by decide) ?_
        refine V_lv [2, 3, 4, 5, 6, 0] rfl (ih x3 x4 (wr_i (x5 + 1)) o_x3 o_x4 (ok_wr _) h)
    · skip
      refine V_iload_n (j := 3) C d_X11_who_95 rfl rfl ?_
      exact V_iret_r C hR d_X11_who_96 o_x3 h
set_option maxHeartbeats 4000000 in
set_option maxRecDepth 100000 in
theorem t_X11_who {X : XT_x} {G : GT_g} {M : Mem_m} {z : Int} (C : Cx_ (K_X11_who) X G) (hR : Rx_ X G (some .int)) (x0 : Nat) (x1 : Int) (x2 : Int) (o_x1 : ok_i x1) (o_x2 : ok_i x2) (h : f_X11_who G.2.2.2 M x0 x1 x2 = some z) : V_ (K_X11_who) X G (Fq_ X G (Qi_ G M z)) M 0 [(0, .ref (G.1 + x0)), (1, iv_i x1), (2, iv_i x2)] [] := by
  unfold f_X11_who at h
  refine V_iload_n (j := 1) C d_X11_who_0 rfl rfl ?_
  refine V_iconst C d_X11_who_1 ?_
  refine V_callSri (K' := K_X11_isIn) (av := [iv_i x1, iv_i 4]) (rest := []) ys_X11_isIn C (yk_X11_isIn) l1_X11_61 (by decide) d_X11_who_2 (fun v hv => ct_X11_isIn x1 4 o_x1 (okc rfl) hv) rfl rfl (Nat.le_of_ble_eq_true rfl) h (fun v1 o1 h => ?_)
  refine V_if_eq (tgt := 18) C d_X11_who_5 (by decide) o1 h (fun h => ?_) (fun h => ?_)
  · skip
    refine V_iconst C d_X11_who_18 ?_
    exact V_iret_r C hR d_X11_who_19 (okc rfl) h
  · skip
    refine V_iload_n (j := 2) C d_X11_who_8 rfl rfl ?_
    refine V_sipush (v := 1000) C d_X11_who_9 rfl ?_
    refine V_callSri (K' := K_X11_isIn) (av := [iv_i x2, iv_i 1000]) (rest := []) ys_X11_isIn C (yk_X11_isIn) l1_X11_61 (by decide) d_X11_who_12 (fun v hv => ct_X11_isIn x2 1000 o_x2 (okc rfl) hv) rfl rfl (Nat.le_of_ble_eq_true rfl) h (fun v2 o2 h => ?_)
    refine V_if_ne (tgt := 20) C d_X11_who_15 (by decide) o2 h (fun h => ?_) (fun h => ?_)
    · skip
      refine V_iconst C d_X11_who_18 ?_
      exact V_iret_r C hR d_X11_who_19 (okc rfl) h
    · skip
      refine V_bipush (v := (-4)) C d_X11_who_20 rfl ?_
      refine V_istore_n (lv' := [(3, iv_i (-4)), (0, .ref (G.1 + x0)), (1, iv_i x1), (2, iv_i x2)]) C d_X11_who_22 rfl (by decide) rfl ?_
      refine V_bipush (v := 21) C d_X11_who_23 rfl ?_
      refine V_istore (lv' := [(4, iv_i 21), (3, iv_i (-4)), (0, .ref (G.1 + x0)), (1, iv_i x1), (2, iv_i x2)]) C d_X11_who_25 (by decide) rfl ?_
      refine V_iconst C d_X11_who_27 ?_
      refine V_istore (lv' := [(5, iv_i 0), (4, iv_i 21), (3, iv_i (-4)), (0, .ref (G.1 + x0)), (1, iv_i x1), (2, iv_i x2)]) C d_X11_who_28 (by decide) rfl ?_
      refine V_lv [3, 4, 5, 2, 1, 0] rfl (t_X11_who_30 C hR M x0 x1 x2 o_x1 o_x2 FU_ (-4) 21 0 (okc rfl) (okc rfl) (okc rfl) h)
set_option maxHeartbeats 4000000 in
set_option maxRecDepth 100000 in
theorem ct_X11_who {l : Launch} {G : GT_g} {M : Mem_m} (x0 : Nat) (x1 : Int) (x2 : Int) (o_x1 : ok_i x1) (o_x2 : ok_i x2) {z : Int} (h : f_X11_who G.2.2.2 M x0 x1 x2 = some z) : MI_ l yX11_who K_X11_who (some .int) G M [.ref (G.1 + x0), iv_i x1, iv_i x2] M z :=
  met_of (by decide +kernel) rfl (Nat.le_of_ble_eq_true rfl) (fun X hl C hR => by subst hl; exact t_X11_who C hR x0 x1 x2 o_x1 o_x2 h)
theorem d_X11_none_0 : decode cX11_none 0 = .ok (.iload_n 1, 1) := by decide +kernel
theorem d_X11_none_1 : decode cX11_none 1 = .ok (.invokestatic 247, 3) := by decide +kernel
theorem d_X11_none_4 : decode cX11_none 4 = .ok (.ifCond .ne 5, 3) := by decide +kernel
theorem d_X11_none_7 : decode cX11_none 7 = .ok (.iconst (-1), 1) := by decide +kernel
theorem d_X11_none_8 : decode cX11_none 8 = .ok (.ireturn, 1) := by decide +kernel
theorem d_X11_none_9 : decode cX11_none 9 = .ok (.iconst 1, 1) := by decide +kernel
theorem d_X11_none_10 : decode cX11_none 10 = .ok (.istore_n 2, 1) := by decide +kernel
theorem d_X11_none_11 : decode cX11_none 11 = .ok (.iload_n 2, 1) := by decide +kernel
theorem d_X11_none_12 : decode cX11_none 12 = .ok (.iconst 3, 1) := by decide +kernel
theorem d_X11_none_13 : decode cX11_none 13 = .ok (.if_icmp .gt 25, 3) := by decide +kernel
theorem d_X11_none_16 : decode cX11_none 16 = .ok (.aload_n 0, 1) := by decide +kernel
theorem d_X11_none_17 : decode cX11_none 17 = .ok (.getfield 10, 3) := by decide +kernel
theorem d_X11_none_20 : decode cX11_none 20 = .ok (.iload_n 1, 1) := by decide +kernel
theorem d_X11_none_21 : decode cX11_none 21 = .ok (.iload_n 2, 1) := by decide +kernel
theorem d_X11_none_22 : decode cX11_none 22 = .ok (.invokevirtual 274, 3) := by decide +kernel
theorem d_X11_none_25 : decode cX11_none 25 = .ok (.istore_n 3, 1) := by decide +kernel
theorem d_X11_none_26 : decode cX11_none 26 = .ok (.iload_n 3, 1) := by decide +kernel
theorem d_X11_none_27 : decode cX11_none 27 = .ok (.ifCond .eq 5, 3) := by decide +kernel
theorem d_X11_none_30 : decode cX11_none 30 = .ok (.iload_n 3, 1) := by decide +kernel
theorem d_X11_none_31 : decode cX11_none 31 = .ok (.ireturn, 1) := by decide +kernel
theorem d_X11_none_32 : decode cX11_none 32 = .ok (.iinc 2 1, 3) := by decide +kernel
theorem d_X11_none_35 : decode cX11_none 35 = .ok (.goto (-24), 3) := by decide +kernel
theorem d_X11_none_38 : decode cX11_none 38 = .ok (.bipush (-4), 2) := by decide +kernel
theorem d_X11_none_40 : decode cX11_none 40 = .ok (.ireturn, 1) := by decide +kernel
set_option maxHeartbeats 4000000 in
set_option maxRecDepth 100000 in
theorem t_X11_none_11 {X : XT_x} {G : GT_g} {z : Int} (C : Cx_ (K_X11_none) X G) (hR : Rx_ X G (some .int)) (M : Mem_m) (x0 : Nat) (x1 : Int) (o_x1 : ok_i x1) : ∀ (n : Nat) (x2 : Int) (o_x2 : ok_i x2), f_X11_none_11 G.2.2.2 M x0 x1 n x2 = some z → V_ (K_X11_none) X G (Fq_ X G (Qi_ G M z)) M 11 [(0, .ref (G.1 + x0)), (1, iv_i x1), (2, iv_i x2)] [] := by
  intro n
  induction n with
  | zero => intro x2 o_x2 h; exact absurd h (by simp [f_X11_none_11])
  | succ n ih =>
    intro x2 o_x2 h
    unfold f_X11_none_11 at h
    refine V_iload_n (j := 2) C d_X11_none_11 rfl rfl ?_
    refine V_iconst C d_X11_none_12 ?_
    refine V_icmp_gt (tgt := 38) C d_X11_none_13 (by decide) o_x2 (okc rfl) h (fun h => ?_) (fun h => ?_)
    · skip
      refine V_aload_n (j := 0) C d_X11_none_16 rfl rfl ?_
      refine V_getR C ck_11 fw_X11_10 d_X11_none_17 h (fun v1 h => ?_)
      refine V_iload_n (j := 1) C d_X11_none_20 rfl rfl ?_
      refine V_iload_n (j := 2) C d_X11_none_21 rfl rfl ?_
      refine V_callVri (K' := K_X0_leastWithoutOrder) (a := v1) (ci := 0) (av := [iv_i x1, iv_i x2]) (rest := []) yi_X0_leastWithoutOrder (by decide) rfl C (yk_X0_leastWithoutOrder) l1_X11_274 (by decide) d_X11_none_22 (fun v hv => ct_X0_leastWithoutOrder v1 x1 x2 o_x1 o_x2 hv) rfl rfl (Nat.le_of_ble_eq_true rfl) h (fun v2 o2 h => ?_)
      refine V_istore_n (lv' := [(3, iv_i v2), (0, .ref (G.1 + x0)), (1, iv_i x1), (2, iv_i x2)]) C d_X11_none_25 rfl (by decide) rfl ?_
      refine V_iload_n (j := 0) C d_X11_none_26 rfl rfl ?_
      refine V_if_eq (tgt := 32) C d_X11_none_27 (by decide) o2 h (fun h => ?_) (fun h => ?_)
      · skip
        refine V_iinc (j := 3) (lv' := [(2, iv_i (wr_i (x2 + 1))), (3, iv_i v2), (0, .ref (G.1 + x0)), (1, iv_i x1)]) C d_X11_none_32 rfl (by decide) rfl ?_
        refine V_goto (tgt := 11) C d_X11_none_35 (by decide) ?_
        refine V_lv [2, 3, 0] rfl (ih (wr_i (x2 + 1)) (ok_wr _) h)
      · skip
        refine V_iload_n (j := 0) C d_X11_none_30 rfl rfl ?_
        exact V_iret_r C hR d_X11_none_31 o2 h
    · skip
      refine V_bipush (v := (-4)) C d_X11_none_38 rfl ?_
      exact V_iret_r C hR d_X11_none_40 (okc rfl) h
set_option maxHeartbeats 4000000 in
set_option maxRecDepth 100000 in
theorem t_X11_none {X : XT_x} {G : GT_g} {M : Mem_m} {z : Int} (C : Cx_ (K_X11_none) X G) (hR : Rx_ X G (some .int)) (x0 : Nat) (x1 : Int) (o_x1 : ok_i x1) (h : f_X11_none G.2.2.2 M x0 x1 = some z) : V_ (K_X11_none) X G (Fq_ X G (Qi_ G M z)) M 0 [(0, .ref (G.1 + x0)), (1, iv_i x1)] [] := by
  unfold f_X11_none at h
  refine V_iload_n (j := 1) C d_X11_none_0 rfl rfl ?_
  refine V_callSri (K' := K_X11_isVillageOrAll) (av := [iv_i x1]) (rest := []) ys_X11_isVillageOrAll C (yk_X11_isVillageOrAll) l1_X11_247 (by decide) d_X11_none_1 (fun v hv => ct_X11_isVillageOrAll x1 o_x1 hv) rfl rfl (Nat.le_of_ble_eq_true rfl) h (fun v1 o1 h => ?_)
  refine V_if_ne (tgt := 9) C d_X11_none_4 (by decide) o1 h (fun h => ?_) (fun h => ?_)
  · skip
    refine V_iconst C d_X11_none_7 ?_
    exact V_iret_r C hR d_X11_none_8 (okc rfl) h
  · skip
    refine V_iconst C d_X11_none_9 ?_
    refine V_istore_n (lv' := [(2, iv_i 1), (0, .ref (G.1 + x0)), (1, iv_i x1)]) C d_X11_none_10 rfl (by decide) rfl ?_
    refine V_lv [1, 2, 0] rfl (t_X11_none_11 C hR M x0 x1 o_x1 FU_ 1 (okc rfl) h)
set_option maxHeartbeats 4000000 in
set_option maxRecDepth 100000 in
theorem ct_X11_none {l : Launch} {G : GT_g} {M : Mem_m} (x0 : Nat) (x1 : Int) (o_x1 : ok_i x1) {z : Int} (h : f_X11_none G.2.2.2 M x0 x1 = some z) : MI_ l yX11_none K_X11_none (some .int) G M [.ref (G.1 + x0), iv_i x1] M z :=
  met_of (by decide +kernel) rfl (Nat.le_of_ble_eq_true rfl) (fun X hl C hR => by subst hl; exact t_X11_none C hR x0 x1 o_x1 h)
theorem d_X11_reader_0 : decode cX11_reader 0 = .ok (.iload_n 1, 1) := by decide +kernel
theorem d_X11_reader_1 : decode cX11_reader 1 = .ok (.ldc_w 277, 3) := by decide +kernel
theorem d_X11_reader_4 : decode cX11_reader 4 = .ok (.invokestatic 61, 3) := by decide +kernel
theorem d_X11_reader_7 : decode cX11_reader 7 = .ok (.ifCond .eq 16, 3) := by decide +kernel
theorem d_X11_reader_10 : decode cX11_reader 10 = .ok (.iload_n 2, 1) := by decide +kernel
theorem d_X11_reader_11 : decode cX11_reader 11 = .ok (.bipush 10, 2) := by decide +kernel
theorem d_X11_reader_13 : decode cX11_reader 13 = .ok (.invokestatic 61, 3) := by decide +kernel
theorem d_X11_reader_16 : decode cX11_reader 16 = .ok (.ifCond .eq 7, 3) := by decide +kernel
theorem d_X11_reader_19 : decode cX11_reader 19 = .ok (.iload_n 3, 1) := by decide +kernel
theorem d_X11_reader_20 : decode cX11_reader 20 = .ok (.ifCond .ge 5, 3) := by decide +kernel
theorem d_X11_reader_23 : decode cX11_reader 23 = .ok (.iconst (-1), 1) := by decide +kernel
theorem d_X11_reader_24 : decode cX11_reader 24 = .ok (.ireturn, 1) := by decide +kernel
theorem d_X11_reader_25 : decode cX11_reader 25 = .ok (.iload_n 3, 1) := by decide +kernel
theorem d_X11_reader_26 : decode cX11_reader 26 = .ok (.istore 4, 2) := by decide +kernel
theorem d_X11_reader_28 : decode cX11_reader 28 = .ok (.iload 4, 2) := by decide +kernel
theorem d_X11_reader_30 : decode cX11_reader 30 = .ok (.aload_n 0, 1) := by decide +kernel
theorem d_X11_reader_31 : decode cX11_reader 31 = .ok (.getfield 10, 3) := by decide +kernel
theorem d_X11_reader_34 : decode cX11_reader 34 = .ok (.getfield 69, 3) := by decide +kernel
theorem d_X11_reader_37 : decode cX11_reader 37 = .ok (.if_icmp .ge 77, 3) := by decide +kernel
theorem d_X11_reader_40 : decode cX11_reader 40 = .ok (.aload_n 0, 1) := by decide +kernel
theorem d_X11_reader_41 : decode cX11_reader 41 = .ok (.getfield 10, 3) := by decide +kernel
theorem d_X11_reader_44 : decode cX11_reader 44 = .ok (.getfield 77, 3) := by decide +kernel
theorem d_X11_reader_47 : decode cX11_reader 47 = .ok (.iload 4, 2) := by decide +kernel
theorem d_X11_reader_49 : decode cX11_reader 49 = .ok (.aaload, 1) := by decide +kernel
theorem d_X11_reader_50 : decode cX11_reader 50 = .ok (.invokevirtual 278, 3) := by decide +kernel
theorem d_X11_reader_53 : decode cX11_reader 53 = .ok (.ifCond .eq 55, 3) := by decide +kernel
theorem d_X11_reader_56 : decode cX11_reader 56 = .ok (.aload_n 0, 1) := by decide +kernel
theorem d_X11_reader_57 : decode cX11_reader 57 = .ok (.getfield 28, 3) := by decide +kernel
theorem d_X11_reader_60 : decode cX11_reader 60 = .ok (.aload_n 0, 1) := by decide +kernel
theorem d_X11_reader_61 : decode cX11_reader 61 = .ok (.getfield 10, 3) := by decide +kernel
theorem d_X11_reader_64 : decode cX11_reader 64 = .ok (.aload_n 0, 1) := by decide +kernel
theorem d_X11_reader_65 : decode cX11_reader 65 = .ok (.getfield 10, 3) := by decide +kernel
theorem d_X11_reader_68 : decode cX11_reader 68 = .ok (.getfield 77, 3) := by decide +kernel
theorem d_X11_reader_71 : decode cX11_reader 71 = .ok (.iload 4, 2) := by decide +kernel
theorem d_X11_reader_73 : decode cX11_reader 73 = .ok (.aaload, 1) := by decide +kernel
theorem d_X11_reader_74 : decode cX11_reader 74 = .ok (.invokevirtual 158, 3) := by decide +kernel
theorem d_X11_reader_77 : decode cX11_reader 77 = .ok (.aload_n 0, 1) := by decide +kernel
theorem d_X11_reader_78 : decode cX11_reader 78 = .ok (.getfield 28, 3) := by decide +kernel
theorem d_X11_reader_81 : decode cX11_reader 81 = .ok (.getfield 282, 3) := by decide +kernel
theorem d_X11_reader_84 : decode cX11_reader 84 = .ok (.ifCond .ne 24, 3) := by decide +kernel
theorem d_X11_reader_87 : decode cX11_reader 87 = .ok (.aload_n 0, 1) := by decide +kernel
theorem d_X11_reader_88 : decode cX11_reader 88 = .ok (.getfield 28, 3) := by decide +kernel
theorem d_X11_reader_91 : decode cX11_reader 91 = .ok (.getfield 285, 3) := by decide +kernel
theorem d_X11_reader_94 : decode cX11_reader 94 = .ok (.iload_n 1, 1) := by decide +kernel
theorem d_X11_reader_95 : decode cX11_reader 95 = .ok (.iconst (-1), 1) := by decide +kernel
theorem d_X11_reader_96 : decode cX11_reader 96 = .ok (.ixor, 1) := by decide +kernel
theorem d_X11_reader_97 : decode cX11_reader 97 = .ok (.iand, 1) := by decide +kernel
theorem d_X11_reader_98 : decode cX11_reader 98 = .ok (.invokestatic 253, 3) := by decide +kernel
theorem d_X11_reader_101 : decode cX11_reader 101 = .ok (.iload_n 2, 1) := by decide +kernel
theorem d_X11_reader_102 : decode cX11_reader 102 = .ok (.if_icmp .gt 6, 3) := by decide +kernel
theorem d_X11_reader_105 : decode cX11_reader 105 = .ok (.iload 4, 2) := by decide +kernel
theorem d_X11_reader_107 : decode cX11_reader 107 = .ok (.ireturn, 1) := by decide +kernel
theorem d_X11_reader_108 : decode cX11_reader 108 = .ok (.iinc 4 1, 3) := by decide +kernel
theorem d_X11_reader_111 : decode cX11_reader 111 = .ok (.goto (-83), 3) := by decide +kernel
theorem d_X11_reader_114 : decode cX11_reader 114 = .ok (.bipush (-4), 2) := by decide +kernel
theorem d_X11_reader_116 : decode cX11_reader 116 = .ok (.ireturn, 1) := by decide +kernel
set_option maxHeartbeats 4000000 in
set_option maxRecDepth 100000 in
theorem t_X11_reader_28 {X : XT_x} {G : GT_g} {z : (Mem_m × Int)} (C : Cx_ (K_X11_reader) X G) (hR : Rx_ X G (some .int)) (x0 : Nat) (x1 : Int) (x2 : Int) (o_x1 : ok_i x1) (o_x2 : ok_i x2) : ∀ (n : Nat) (M : Mem_m) (x4 : Int) (o_x4 : ok_i x4), f_X11_reader_28 G.2.2.2 x0 x1 x2 n M x4 = some z → V_ (K_X11_reader) X G (Fq_ X G (Qi_ G z.1 z.2)) M 28 [(0, .ref (G.1 + x0)), (1, iv_i x1), (2, iv_i x2), (4, iv_i x4)] [] := by
  intro n
  induction n with
  | zero => intro M x4 o_x4 h; exact absurd h (by simp [f_X11_reader_28])
  | succ n ih =>
    intro M x4 o_x4 h
    unfold f_X11_reader_28 at h
    refine V_iload (j := 3) C d_X11_reader_28 rfl ?_
    refine V_aload_n (j := 0) C d_X11_reader_30 rfl rfl ?_
    refine V_getR C ck_11 fw_X11_10 d_X11_reader_31 h (fun v1 h => ?_)
    refine V_getI C ck_0 fw_X11_69 d_X11_reader_34 h (fun v2 o2 h => ?_)
    refine V_icmp_ge (tgt := 114) C d_X11_reader_37 (by decide) o_x4 o2 h (fun h => ?_) (fun h => ?_)
    · skip
      refine V_aload_n (j := 0) C d_X11_reader_40 rfl rfl ?_
      refine V_getR C ck_11 fw_X11_10 d_X11_reader_41 h (fun v3 h => ?_)
      refine V_getR C ck_0 fw_X11_77 d_X11_reader_44 h (fun v4 h => ?_)
      refine V_iload (j := 3) C d_X11_reader_47 rfl ?_
      refine V_aald (t := 0) C tc_0 d_X11_reader_49 o_x4 h (fun v5 h => ?_)
      refine V_callVri (K' := K_X1_isCounted) (a := v5) (ci := 1) (av := []) (rest := []) yi_X1_isCounted (by decide) rfl C (yk_X1_isCounted) l1_X11_278 (by decide) d_X11_reader_50 (fun v hv => ct_X1_isCounted v5 hv) rfl rfl (Nat.le_of_ble_eq_true rfl) h (fun v6 o6 h => ?_)
      refine V_if_eq (tgt := 108) C d_X11_reader_53 (by decide) o6 h (fun h => ?_) (fun h => ?_)
      · skip
        refine V_iinc (j := 3) (lv' := [(4, iv_i (wr_i (x4 + 1))), (0, .ref (G.1 + x0)), (1, iv_i x1), (2, iv_i x2)]) C d_X11_reader_108 rfl (by decide) rfl ?_
        refine V_goto (tgt := 28) C d_X11_reader_111 (by decide) ?_
        refine V_lv [1, 2, 3, 0] rfl (ih M (wr_i (x4 + 1)) (ok_wr _) h)
      · skip
        refine V_aload_n (j := 0) C d_X11_reader_56 rfl rfl ?_
        refine V_getR C ck_11 fw_X11_28 d_X11_reader_57 h (fun v7 h => ?_)
        refine V_aload_n (j := 0) C d_X11_reader_60 rfl rfl ?_
        refine V_getR C ck_11 fw_X11_10 d_X11_reader_61 h (fun v8 h => ?_)
        refine V_aload_n (j := 0) C d_X11_reader_64 rfl rfl ?_
        refine V_getR C ck_11 fw_X11_10 d_X11_reader_65 h (fun v9 h => ?_)
        refine V_getR C ck_0 fw_X11_77 d_X11_reader_68 h (fun v10 h => ?_)
        refine V_iload (j := 3) C d_X11_reader_71 rfl ?_
        refine V_aald (t := 0) C tc_0 d_X11_reader_73 o_x4 h (fun v11 h => ?_)
        refine V_callVwv (K' := K_X2_cutUp) (a := v7) (ci := 2) (av := [.ref (G.1 + v8), .ref (G.1 + v11)]) (rest := []) yi_X2_cutUp (by decide) rfl C (yk_X2_cutUp) l1_X11_158 (by decide) d_X11_reader_74 (fun v hv => ct_X2_cutUp v7 v8 v11 hv) rfl rfl (Nat.le_of_ble_eq_true rfl) h (fun M12 h => ?_)
        refine V_aload_n (j := 0) C d_X11_reader_77 rfl rfl ?_
        refine V_getR C ck_11 fw_X11_28 d_X11_reader_78 h (fun v13 h => ?_)
        refine V_getI C ck_2 fw_X11_282 d_X11_reader_81 h (fun v14 o14 h => ?_)
        refine V_if_ne (tgt := 108) C d_X11_reader_84 (by decide) o14 h (fun h => ?_) (fun h => ?_)
        · skip
          refine V_aload_n (j := 0) C d_X11_reader_87 rfl rfl ?_
          refine V_getR C ck_11 fw_X11_28 d_X11_reader_88 h (fun v15 h => ?_)
          refine V_getI C ck_2 fw_X11_285 d_X11_reader_91 h (fun v16 o16 h => ?_)
          refine V_iload_n (j := 1) C d_X11_reader_94 rfl rfl ?_
          refine V_iconst C d_X11_reader_95 ?_
          refine V_ixor C d_X11_reader_96 ?_
          refine V_iand C d_X11_reader_97 ?_
          refine V_callSri (K' := K_J6_bitCount_0f7a4) (av := [iv_i (an_i v16 (xo_i x1 (-1)))]) (rest := []) ys_J6_bitCount_0f7a4 C (yk_J6_bitCount_0f7a4) l1_X11_253 (by decide) d_X11_reader_98 (fun v hv => ct_J6_bitCount_0f7a4 (an_i v16 (xo_i x1 (-1))) (ok_I _) hv) rfl rfl (Nat.le_of_ble_eq_true rfl) h (fun v17 o17 h => ?_)
          refine V_iload_n (j := 2) C d_X11_reader_101 rfl rfl ?_
          refine V_icmp_gt (tgt := 108) C d_X11_reader_102 (by decide) o17 o_x2 h (fun h => ?_) (fun h => ?_)
          · skip
            refine V_iload (j := 3) C d_X11_reader_105 rfl ?_
            exact V_iret_w C hR d_X11_reader_107 o_x4 h
          · skip
            refine V_iinc (j := 3) (lv' := [(4, iv_i (wr_i (x4 + 1))), (0, .ref (G.1 + x0)), (1, iv_i x1), (2, iv_i x2)]) C d_X11_reader_108 rfl (by decide) rfl ?_
            refine V_goto (tgt := 28) C d_X11_reader_111 (by decide) ?_
            refine V_lv [1, 2, 3, 0] rfl (ih M12 (wr_i (x4 + 1)) (ok_wr _) h)
        · skip
          refine V_iinc (j := 3) (lv' := [(4, iv_i (wr_i (x4 + 1))), (0, .ref (G.1 + x0)), (1, iv_i x1), (2, iv_i x2)]) C d_X11_reader_108 rfl (by decide) rfl ?_
          refine V_goto (tgt := 28) C d_X11_reader_111 (by decide) ?_
          refine V_lv [1, 2, 3, 0] rfl (ih M12 (wr_i (x4 + 1)) (ok_wr _) h)
    · skip
      refine V_bipush (v := (-4)) C d_X11_reader_114 rfl ?_
      exact V_iret_w C hR d_X11_reader_116 (okc rfl) h
set_option maxHeartbeats 4000000 in
set_option maxRecDepth 100000 in
theorem t_X11_reader {X : XT_x} {G : GT_g} {M : Mem_m} {z : (Mem_m × Int)} (C : Cx_ (K_X11_reader) X G) (hR : Rx_ X G (some .int)) (x0 : Nat) (x1 : Int) (x2 : Int) (x3 : Int) (o_x1 : ok_i x1) (o_x2 : ok_i x2) (o_x3 : ok_i x3) (h : f_X11_reader G.2.2.2 M x0 x1 x2 x3 = some z) : V_ (K_X11_reader) X G (Fq_ X G (Qi_ G z.1 z.2)) M 0 [(0, .ref (G.1 + x0)), (1, iv_i x1), (2, iv_i x2), (3, iv_i x3)] [] := by
  unfold f_X11_reader at h
  refine V_iload_n (j := 1) C d_X11_reader_0 rfl rfl ?_
  refine V_ldcw (v := 65536) C d_X11_reader_1 cn_X11_277 ?_
  refine V_callSri (K' := K_X11_isIn) (av := [iv_i x1, iv_i 65536]) (rest := []) ys_X11_isIn C (yk_X11_isIn) l1_X11_61 (by decide) d_X11_reader_4 (fun v hv => ct_X11_isIn x1 65536 o_x1 (okc rfl) hv) rfl rfl (Nat.le_of_ble_eq_true rfl) h (fun v1 o1 h => ?_)
  refine V_if_eq (tgt := 23) C d_X11_reader_7 (by decide) o1 h (fun h => ?_) (fun h => ?_)
  · skip
    refine V_iconst C d_X11_reader_23 ?_
    exact V_iret_w C hR d_X11_reader_24 (okc rfl) h
  · skip
    refine V_iload_n (j := 2) C d_X11_reader_10 rfl rfl ?_
    refine V_bipush (v := 10) C d_X11_reader_11 rfl ?_
    refine V_callSri (K' := K_X11_isIn) (av := [iv_i x2, iv_i 10]) (rest := []) ys_X11_isIn C (yk_X11_isIn) l1_X11_61 (by decide) d_X11_reader_13 (fun v hv => ct_X11_isIn x2 10 o_x2 (okc rfl) hv) rfl rfl (Nat.le_of_ble_eq_true rfl) h (fun v2 o2 h => ?_)
    refine V_if_eq (tgt := 23) C d_X11_reader_16 (by decide) o2 h (fun h => ?_) (fun h => ?_)
    · skip
      refine V_iconst C d_X11_reader_23 ?_
      exact V_iret_w C hR d_X11_reader_24 (okc rfl) h
    · skip
      refine V_iload_n (j := 3) C d_X11_reader_19 rfl rfl ?_
      refine V_if_ge (tgt := 25) C d_X11_reader_20 (by decide) o_x3 h (fun h => ?_) (fun h => ?_)
      · skip
        refine V_iconst C d_X11_reader_23 ?_
        exact V_iret_w C hR d_X11_reader_24 (okc rfl) h
      · skip
        refine V_iload_n (j := 3) C d_X11_reader_25 rfl rfl ?_
        refine V_istore (lv' := [(4, iv_i x3), (0, .ref (G.1 + x0)), (1, iv_i x1), (2, iv_i x2), (3, iv_i x3)]) C d_X11_reader_26 (by decide) rfl ?_
        refine V_lv [1, 2, 3, 0] rfl (t_X11_reader_28 C hR x0 x1 x2 o_x1 o_x2 FU_ M x3 o_x3 h)
set_option maxHeartbeats 4000000 in
set_option maxRecDepth 100000 in
theorem ct_X11_reader {l : Launch} {G : GT_g} {M : Mem_m} (x0 : Nat) (x1 : Int) (x2 : Int) (x3 : Int) (o_x1 : ok_i x1) (o_x2 : ok_i x2) (o_x3 : ok_i x3) {z : (Mem_m × Int)} (h : f_X11_reader G.2.2.2 M x0 x1 x2 x3 = some z) : MI_ l yX11_reader K_X11_reader (some .int) G M [.ref (G.1 + x0), iv_i x1, iv_i x2, iv_i x3] z.1 z.2 :=
  met_of (by decide +kernel) rfl (Nat.le_of_ble_eq_true rfl) (fun X hl C hR => by subst hl; exact t_X11_reader C hR x0 x1 x2 x3 o_x1 o_x2 o_x3 h)
theorem d_X11_neighbour_0 : decode cX11_neighbour 0 = .ok (.iload_n 1, 1) := by decide +kernel
theorem d_X11_neighbour_1 : decode cX11_neighbour 1 = .ok (.bipush 8, 2) := by decide +kernel
theorem d_X11_neighbour_3 : decode cX11_neighbour 3 = .ok (.invokestatic 61, 3) := by decide +kernel
theorem d_X11_neighbour_6 : decode cX11_neighbour 6 = .ok (.ifCond .eq 17, 3) := by decide +kernel
theorem d_X11_neighbour_9 : decode cX11_neighbour 9 = .ok (.iload_n 2, 1) := by decide +kernel
theorem d_X11_neighbour_10 : decode cX11_neighbour 10 = .ok (.aload_n 0, 1) := by decide +kernel
theorem d_X11_neighbour_11 : decode cX11_neighbour 11 = .ok (.getfield 10, 3) := by decide +kernel
theorem d_X11_neighbour_14 : decode cX11_neighbour 14 = .ok (.getfield 69, 3) := by decide +kernel
theorem d_X11_neighbour_17 : decode cX11_neighbour 17 = .ok (.invokestatic 61, 3) := by decide +kernel
theorem d_X11_neighbour_20 : decode cX11_neighbour 20 = .ok (.ifCond .ne 5, 3) := by decide +kernel
theorem d_X11_neighbour_23 : decode cX11_neighbour 23 = .ok (.iconst (-1), 1) := by decide +kernel
theorem d_X11_neighbour_24 : decode cX11_neighbour 24 = .ok (.ireturn, 1) := by decide +kernel
theorem d_X11_neighbour_25 : decode cX11_neighbour 25 = .ok (.aload_n 0, 1) := by decide +kernel
theorem d_X11_neighbour_26 : decode cX11_neighbour 26 = .ok (.getfield 10, 3) := by decide +kernel
theorem d_X11_neighbour_29 : decode cX11_neighbour 29 = .ok (.getfield 288, 3) := by decide +kernel
theorem d_X11_neighbour_32 : decode cX11_neighbour 32 = .ok (.bipush 10, 2) := by decide +kernel
theorem d_X11_neighbour_34 : decode cX11_neighbour 34 = .ok (.if_icmp .lt 6, 3) := by decide +kernel
theorem d_X11_neighbour_37 : decode cX11_neighbour 37 = .ok (.bipush (-2), 2) := by decide +kernel
theorem d_X11_neighbour_39 : decode cX11_neighbour 39 = .ok (.ireturn, 1) := by decide +kernel
theorem d_X11_neighbour_40 : decode cX11_neighbour 40 = .ok (.aload_n 0, 1) := by decide +kernel
theorem d_X11_neighbour_41 : decode cX11_neighbour 41 = .ok (.getfield 21, 3) := by decide +kernel
theorem d_X11_neighbour_44 : decode cX11_neighbour 44 = .ok (.iload_n 1, 1) := by decide +kernel
theorem d_X11_neighbour_45 : decode cX11_neighbour 45 = .ok (.aaload, 1) := by decide +kernel
theorem d_X11_neighbour_46 : decode cX11_neighbour 46 = .ok (.iconst 1, 1) := by decide +kernel
theorem d_X11_neighbour_47 : decode cX11_neighbour 47 = .ok (.bipush 8, 2) := by decide +kernel
theorem d_X11_neighbour_49 : decode cX11_neighbour 49 = .ok (.invokevirtual 73, 3) := by decide +kernel
theorem d_X11_neighbour_52 : decode cX11_neighbour 52 = .ok (.istore_n 3, 1) := by decide +kernel
theorem d_X11_neighbour_53 : decode cX11_neighbour 53 = .ok (.iload_n 3, 1) := by decide +kernel
theorem d_X11_neighbour_54 : decode cX11_neighbour 54 = .ok (.ifCond .eq 5, 3) := by decide +kernel
theorem d_X11_neighbour_57 : decode cX11_neighbour 57 = .ok (.iload_n 3, 1) := by decide +kernel
theorem d_X11_neighbour_58 : decode cX11_neighbour 58 = .ok (.ireturn, 1) := by decide +kernel
theorem d_X11_neighbour_59 : decode cX11_neighbour 59 = .ok (.aload_n 0, 1) := by decide +kernel
theorem d_X11_neighbour_60 : decode cX11_neighbour 60 = .ok (.getfield 10, 3) := by decide +kernel
theorem d_X11_neighbour_63 : decode cX11_neighbour 63 = .ok (.getfield 291, 3) := by decide +kernel
theorem d_X11_neighbour_66 : decode cX11_neighbour 66 = .ok (.aload_n 0, 1) := by decide +kernel
theorem d_X11_neighbour_67 : decode cX11_neighbour 67 = .ok (.getfield 10, 3) := by decide +kernel
theorem d_X11_neighbour_70 : decode cX11_neighbour 70 = .ok (.getfield 288, 3) := by decide +kernel
theorem d_X11_neighbour_73 : decode cX11_neighbour 73 = .ok (.aaload, 1) := by decide +kernel
theorem d_X11_neighbour_74 : decode cX11_neighbour 74 = .ok (.aload_n 0, 1) := by decide +kernel
theorem d_X11_neighbour_75 : decode cX11_neighbour 75 = .ok (.getfield 21, 3) := by decide +kernel
theorem d_X11_neighbour_78 : decode cX11_neighbour 78 = .ok (.iload_n 1, 1) := by decide +kernel
theorem d_X11_neighbour_79 : decode cX11_neighbour 79 = .ok (.aaload, 1) := by decide +kernel
theorem d_X11_neighbour_80 : decode cX11_neighbour 80 = .ok (.invokevirtual 87, 3) := by decide +kernel
theorem d_X11_neighbour_83 : decode cX11_neighbour 83 = .ok (.aload_n 0, 1) := by decide +kernel
theorem d_X11_neighbour_84 : decode cX11_neighbour 84 = .ok (.getfield 10, 3) := by decide +kernel
theorem d_X11_neighbour_87 : decode cX11_neighbour 87 = .ok (.getfield 295, 3) := by decide +kernel
theorem d_X11_neighbour_90 : decode cX11_neighbour 90 = .ok (.aload_n 0, 1) := by decide +kernel
theorem d_X11_neighbour_91 : decode cX11_neighbour 91 = .ok (.getfield 10, 3) := by decide +kernel
theorem d_X11_neighbour_94 : decode cX11_neighbour 94 = .ok (.getfield 288, 3) := by decide +kernel
theorem d_X11_neighbour_97 : decode cX11_neighbour 97 = .ok (.iload_n 2, 1) := by decide +kernel
theorem d_X11_neighbour_98 : decode cX11_neighbour 98 = .ok (.iastore, 1) := by decide +kernel
theorem d_X11_neighbour_99 : decode cX11_neighbour 99 = .ok (.aload_n 0, 1) := by decide +kernel
theorem d_X11_neighbour_100 : decode cX11_neighbour 100 = .ok (.getfield 10, 3) := by decide +kernel
theorem d_X11_neighbour_103 : decode cX11_neighbour 103 = .ok (.dup, 1) := by decide +kernel
theorem d_X11_neighbour_104 : decode cX11_neighbour 104 = .ok (.getfield 288, 3) := by decide +kernel
theorem d_X11_neighbour_107 : decode cX11_neighbour 107 = .ok (.iconst 1, 1) := by decide +kernel
theorem d_X11_neighbour_108 : decode cX11_neighbour 108 = .ok (.iadd, 1) := by decide +kernel
theorem d_X11_neighbour_109 : decode cX11_neighbour 109 = .ok (.putfield 288, 3) := by decide +kernel
theorem d_X11_neighbour_112 : decode cX11_neighbour 112 = .ok (.aload_n 0, 1) := by decide +kernel
theorem d_X11_neighbour_113 : decode cX11_neighbour 113 = .ok (.getfield 10, 3) := by decide +kernel
theorem d_X11_neighbour_116 : decode cX11_neighbour 116 = .ok (.getfield 288, 3) := by decide +kernel
theorem d_X11_neighbour_119 : decode cX11_neighbour 119 = .ok (.iconst 1, 1) := by decide +kernel
theorem d_X11_neighbour_120 : decode cX11_neighbour 120 = .ok (.isub, 1) := by decide +kernel
theorem d_X11_neighbour_121 : decode cX11_neighbour 121 = .ok (.ireturn, 1) := by decide +kernel
set_option maxHeartbeats 4000000 in
set_option maxRecDepth 100000 in
theorem t_X11_neighbour {X : XT_x} {G : GT_g} {M : Mem_m} {z : (Mem_m × Int)} (C : Cx_ (K_X11_neighbour) X G) (hR : Rx_ X G (some .int)) (x0 : Nat) (x1 : Int) (x2 : Int) (o_x1 : ok_i x1) (o_x2 : ok_i x2) (h : f_X11_neighbour G.2.2.2 M x0 x1 x2 = some z) : V_ (K_X11_neighbour) X G (Fq_ X G (Qi_ G z.1 z.2)) M 0 [(0, .ref (G.1 + x0)), (1, iv_i x1), (2, iv_i x2)] [] := by
  unfold f_X11_neighbour at h
  refine V_iload_n (j := 1) C d_X11_neighbour_0 rfl rfl ?_
  refine V_bipush (v := 8) C d_X11_neighbour_1 rfl ?_
  refine V_callSri (K' := K_X11_isIn) (av := [iv_i x1, iv_i 8]) (rest := []) ys_X11_isIn C (yk_X11_isIn) l1_X11_61 (by decide) d_X11_neighbour_3 (fun v hv => ct_X11_isIn x1 8 o_x1 (okc rfl) hv) rfl rfl (Nat.le_of_ble_eq_true rfl) h (fun v1 o1 h => ?_)
  refine V_if_eq (tgt := 23) C d_X11_neighbour_6 (by decide) o1 h (fun h => ?_) (fun h => ?_)
  · skip
    refine V_iconst C d_X11_neighbour_23 ?_
    exact V_iret_w C hR d_X11_neighbour_24 (okc rfl) h
  · skip
    refine V_iload_n (j := 2) C d_X11_neighbour_9 rfl rfl ?_
    refine V_aload_n (j := 0) C d_X11_neighbour_10 rfl rfl ?_
    refine V_getR C ck_11 fw_X11_10 d_X11_neighbour_11 h (fun v2 h => ?_)
    refine V_getI C ck_0 fw_X11_69 d_X11_neighbour_14 h (fun v3 o3 h => ?_)
    refine V_callSri (K' := K_X11_isIn) (av := [iv_i x2, iv_i v3]) (rest := []) ys_X11_isIn C (yk_X11_isIn) l1_X11_61 (by decide) d_X11_neighbour_17 (fun v hv => ct_X11_isIn x2 v3 o_x2 o3 hv) rfl rfl (Nat.le_of_ble_eq_true rfl) h (fun v4 o4 h => ?_)
    refine V_if_ne (tgt := 25) C d_X11_neighbour_20 (by decide) o4 h (fun h => ?_) (fun h => ?_)
    · skip
      refine V_iconst C d_X11_neighbour_23 ?_
      exact V_iret_w C hR d_X11_neighbour_24 (okc rfl) h
    · skip
      refine V_aload_n (j := 0) C d_X11_neighbour_25 rfl rfl ?_
      refine V_getR C ck_11 fw_X11_10 d_X11_neighbour_26 h (fun v5 h => ?_)
      refine V_getI C ck_0 fw_X11_288 d_X11_neighbour_29 h (fun v6 o6 h => ?_)
      refine V_bipush (v := 10) C d_X11_neighbour_32 rfl ?_
      refine V_icmp_lt (tgt := 40) C d_X11_neighbour_34 (by decide) o6 (okc rfl) h (fun h => ?_) (fun h => ?_)
      · skip
        refine V_aload_n (j := 0) C d_X11_neighbour_40 rfl rfl ?_
        refine V_getR C ck_11 fw_X11_21 d_X11_neighbour_41 h (fun v7 h => ?_)
        refine V_iload_n (j := 1) C d_X11_neighbour_44 rfl rfl ?_
        refine V_aald (t := 5) C tc_5 d_X11_neighbour_45 o_x1 h (fun v8 h => ?_)
        refine V_iconst C d_X11_neighbour_46 ?_
        refine V_bipush (v := 8) C d_X11_neighbour_47 rfl ?_
        refine V_callVri (K' := K_X9_refusalOfSounds) (a := v8) (ci := 9) (av := [iv_i 1, iv_i 8]) (rest := []) yi_X9_refusalOfSounds (by decide) rfl C (yk_X9_refusalOfSounds) l1_X11_73 (by decide) d_X11_neighbour_49 (fun v hv => ct_X9_refusalOfSounds v8 1 8 (okc rfl) (okc rfl) hv) rfl rfl (Nat.le_of_ble_eq_true rfl) h (fun v9 o9 h => ?_)
        refine V_istore_n (lv' := [(3, iv_i v9), (0, .ref (G.1 + x0)), (1, iv_i x1), (2, iv_i x2)]) C d_X11_neighbour_52 rfl (by decide) rfl ?_
        refine V_iload_n (j := 0) C d_X11_neighbour_53 rfl rfl ?_
        refine V_if_eq (tgt := 59) C d_X11_neighbour_54 (by decide) o9 h (fun h => ?_) (fun h => ?_)
        · skip
          refine V_aload_n (j := 1) C d_X11_neighbour_59 rfl rfl ?_
          refine V_getR C ck_11 fw_X11_10 d_X11_neighbour_60 h (fun v10 h => ?_)
          refine V_getR C ck_0 fw_X11_291 d_X11_neighbour_63 h (fun v11 h => ?_)
          refine V_aload_n (j := 1) C d_X11_neighbour_66 rfl rfl ?_
          refine V_getR C ck_11 fw_X11_10 d_X11_neighbour_67 h (fun v12 h => ?_)
          refine V_getI C ck_0 fw_X11_288 d_X11_neighbour_70 h (fun v13 o13 h => ?_)
          refine V_aald (t := 4) C tc_4 d_X11_neighbour_73 o13 h (fun v14 h => ?_)
          refine V_aload_n (j := 1) C d_X11_neighbour_74 rfl rfl ?_
          refine V_getR C ck_11 fw_X11_21 d_X11_neighbour_75 h (fun v15 h => ?_)
          refine V_iload_n (j := 2) C d_X11_neighbour_78 rfl rfl ?_
          refine V_aald (t := 5) C tc_5 d_X11_neighbour_79 o_x1 h (fun v16 h => ?_)
          refine V_callVwv (K' := K_X10_takeRow) (a := v14) (ci := 10) (av := [.ref (G.1 + v16)]) (rest := []) yi_X10_takeRow (by decide) rfl C (yk_X10_takeRow) l1_X11_87 (by decide) d_X11_neighbour_80 (fun v hv => ct_X10_takeRow v14 v16 hv) rfl rfl (Nat.le_of_ble_eq_true rfl) h (fun M17 h => ?_)
          refine V_aload_n (j := 1) C d_X11_neighbour_83 rfl rfl ?_
          refine V_getR C ck_11 fw_X11_10 d_X11_neighbour_84 h (fun v18 h => ?_)
          refine V_getR C ck_0 fw_X11_295 d_X11_neighbour_87 h (fun v19 h => ?_)
          refine V_aload_n (j := 1) C d_X11_neighbour_90 rfl rfl ?_
          refine V_getR C ck_11 fw_X11_10 d_X11_neighbour_91 h (fun v20 h => ?_)
          refine V_getI C ck_0 fw_X11_288 d_X11_neighbour_94 h (fun v21 o21 h => ?_)
          refine V_iload_n (j := 3) C d_X11_neighbour_97 rfl rfl ?_
          refine V_iast C d_X11_neighbour_98 o21 o_x2 h (fun M22 h => ?_)
          refine V_aload_n (j := 1) C d_X11_neighbour_99 rfl rfl ?_
          refine V_getR C ck_11 fw_X11_10 d_X11_neighbour_100 h (fun v23 h => ?_)
          refine V_dup C d_X11_neighbour_103 rfl ?_
          refine V_getI C ck_0 fw_X11_288 d_X11_neighbour_104 h (fun v24 o24 h => ?_)
          refine V_iconst C d_X11_neighbour_107 ?_
          refine V_iadd C d_X11_neighbour_108 ?_
          refine V_putI C ck_0 fw_X11_288 fp_0_14 d_X11_neighbour_109 (ok_wr _) h (fun M25 h => ?_)
          refine V_aload_n (j := 1) C d_X11_neighbour_112 rfl rfl ?_
          refine V_getR C ck_11 fw_X11_10 d_X11_neighbour_113 h (fun v26 h => ?_)
          refine V_getI C ck_0 fw_X11_288 d_X11_neighbour_116 h (fun v27 o27 h => ?_)
          refine V_iconst C d_X11_neighbour_119 ?_
          refine V_isub C d_X11_neighbour_120 ?_
          exact V_iret_w C hR d_X11_neighbour_121 (ok_wr _) h
        · skip
          refine V_iload_n (j := 0) C d_X11_neighbour_57 rfl rfl ?_
          exact V_iret_w C hR d_X11_neighbour_58 o9 h
      · skip
        refine V_bipush (v := (-2)) C d_X11_neighbour_37 rfl ?_
        exact V_iret_w C hR d_X11_neighbour_39 (okc rfl) h
set_option maxHeartbeats 4000000 in
set_option maxRecDepth 100000 in
theorem ct_X11_neighbour {l : Launch} {G : GT_g} {M : Mem_m} (x0 : Nat) (x1 : Int) (x2 : Int) (o_x1 : ok_i x1) (o_x2 : ok_i x2) {z : (Mem_m × Int)} (h : f_X11_neighbour G.2.2.2 M x0 x1 x2 = some z) : MI_ l yX11_neighbour K_X11_neighbour (some .int) G M [.ref (G.1 + x0), iv_i x1, iv_i x2] z.1 z.2 :=
  met_of (by decide +kernel) rfl (Nat.le_of_ble_eq_true rfl) (fun X hl C hR => by subst hl; exact t_X11_neighbour C hR x0 x1 x2 o_x1 o_x2 h)
theorem d_X11_law_0 : decode cX11_law 0 = .ok (.iload_n 1, 1) := by decide +kernel
theorem d_X11_law_1 : decode cX11_law 1 = .ok (.bipush 10, 2) := by decide +kernel
theorem d_X11_law_3 : decode cX11_law 3 = .ok (.invokestatic 61, 3) := by decide +kernel
theorem d_X11_law_6 : decode cX11_law 6 = .ok (.ifCond .ne 5, 3) := by decide +kernel
theorem d_X11_law_9 : decode cX11_law 9 = .ok (.iconst (-1), 1) := by decide +kernel
theorem d_X11_law_10 : decode cX11_law 10 = .ok (.ireturn, 1) := by decide +kernel
theorem d_X11_law_11 : decode cX11_law 11 = .ok (.aload_n 0, 1) := by decide +kernel
theorem d_X11_law_12 : decode cX11_law 12 = .ok (.getfield 49, 3) := by decide +kernel
theorem d_X11_law_15 : decode cX11_law 15 = .ok (.aload_n 0, 1) := by decide +kernel
theorem d_X11_law_16 : decode cX11_law 16 = .ok (.getfield 10, 3) := by decide +kernel
theorem d_X11_law_19 : decode cX11_law 19 = .ok (.invokevirtual 298, 3) := by decide +kernel
theorem d_X11_law_22 : decode cX11_law 22 = .ok (.aload_n 0, 1) := by decide +kernel
theorem d_X11_law_23 : decode cX11_law 23 = .ok (.getfield 49, 3) := by decide +kernel
theorem d_X11_law_26 : decode cX11_law 26 = .ok (.getfield 301, 3) := by decide +kernel
theorem d_X11_law_29 : decode cX11_law 29 = .ok (.iload_n 1, 1) := by decide +kernel
theorem d_X11_law_30 : decode cX11_law 30 = .ok (.iaload, 1) := by decide +kernel
theorem d_X11_law_31 : decode cX11_law 31 = .ok (.ireturn, 1) := by decide +kernel
set_option maxHeartbeats 4000000 in
set_option maxRecDepth 100000 in
theorem t_X11_law {X : XT_x} {G : GT_g} {M : Mem_m} {z : (Mem_m × Int)} (C : Cx_ (K_X11_law) X G) (hR : Rx_ X G (some .int)) (x0 : Nat) (x1 : Int) (o_x1 : ok_i x1) (h : f_X11_law G.2.2.2 M x0 x1 = some z) : V_ (K_X11_law) X G (Fq_ X G (Qi_ G z.1 z.2)) M 0 [(0, .ref (G.1 + x0)), (1, iv_i x1)] [] := by
  unfold f_X11_law at h
  refine V_iload_n (j := 1) C d_X11_law_0 rfl rfl ?_
  refine V_bipush (v := 10) C d_X11_law_1 rfl ?_
  refine V_callSri (K' := K_X11_isIn) (av := [iv_i x1, iv_i 10]) (rest := []) ys_X11_isIn C (yk_X11_isIn) l1_X11_61 (by decide) d_X11_law_3 (fun v hv => ct_X11_isIn x1 10 o_x1 (okc rfl) hv) rfl rfl (Nat.le_of_ble_eq_true rfl) h (fun v1 o1 h => ?_)
  refine V_if_ne (tgt := 11) C d_X11_law_6 (by decide) o1 h (fun h => ?_) (fun h => ?_)
  · skip
    refine V_iconst C d_X11_law_9 ?_
    exact V_iret_w C hR d_X11_law_10 (okc rfl) h
  · skip
    refine V_aload_n (j := 0) C d_X11_law_11 rfl rfl ?_
    refine V_getR C ck_11 fw_X11_49 d_X11_law_12 h (fun v2 h => ?_)
    refine V_aload_n (j := 0) C d_X11_law_15 rfl rfl ?_
    refine V_getR C ck_11 fw_X11_10 d_X11_law_16 h (fun v3 h => ?_)
    refine V_callVwv (K' := K_X4_makeAsTold) (a := v2) (ci := 4) (av := [.ref (G.1 + v3)]) (rest := []) yi_X4_makeAsTold (by decide) rfl C (yk_X4_makeAsTold) l1_X11_298 (by decide) d_X11_law_19 (fun v hv => ct_X4_makeAsTold v2 v3 hv) rfl rfl (Nat.le_of_ble_eq_true rfl) h (fun M4 h => ?_)
    refine V_aload_n (j := 0) C d_X11_law_22 rfl rfl ?_
    refine V_getR C ck_11 fw_X11_49 d_X11_law_23 h (fun v5 h => ?_)
    refine V_getR C ck_4 fw_X11_301 d_X11_law_26 h (fun v6 h => ?_)
    refine V_iload_n (j := 1) C d_X11_law_29 rfl rfl ?_
    refine V_iald C d_X11_law_30 o_x1 h (fun v7 o7 h => ?_)
    exact V_iret_w C hR d_X11_law_31 o7 h
set_option maxHeartbeats 4000000 in
set_option maxRecDepth 100000 in
theorem ct_X11_law {l : Launch} {G : GT_g} {M : Mem_m} (x0 : Nat) (x1 : Int) (o_x1 : ok_i x1) {z : (Mem_m × Int)} (h : f_X11_law G.2.2.2 M x0 x1 = some z) : MI_ l yX11_law K_X11_law (some .int) G M [.ref (G.1 + x0), iv_i x1] z.1 z.2 :=
  met_of (by decide +kernel) rfl (Nat.le_of_ble_eq_true rfl) (fun X hl C hR => by subst hl; exact t_X11_law C hR x0 x1 o_x1 h)
theorem d_X11_led_0 : decode cX11_led 0 = .ok (.iload_n 1, 1) := by decide +kernel
theorem d_X11_led_1 : decode cX11_led 1 = .ok (.iconst 2, 1) := by decide +kernel
theorem d_X11_led_2 : decode cX11_led 2 = .ok (.invokestatic 61, 3) := by decide +kernel
theorem d_X11_led_5 : decode cX11_led 5 = .ok (.ifCond .ne 5, 3) := by decide +kernel
theorem d_X11_led_8 : decode cX11_led 8 = .ok (.iconst (-1), 1) := by decide +kernel
theorem d_X11_led_9 : decode cX11_led 9 = .ok (.ireturn, 1) := by decide +kernel
theorem d_X11_led_10 : decode cX11_led 10 = .ok (.aload_n 0, 1) := by decide +kernel
theorem d_X11_led_11 : decode cX11_led 11 = .ok (.getfield 49, 3) := by decide +kernel
theorem d_X11_led_14 : decode cX11_led 14 = .ok (.aload_n 0, 1) := by decide +kernel
theorem d_X11_led_15 : decode cX11_led 15 = .ok (.getfield 10, 3) := by decide +kernel
theorem d_X11_led_18 : decode cX11_led 18 = .ok (.invokevirtual 298, 3) := by decide +kernel
theorem d_X11_led_21 : decode cX11_led 21 = .ok (.iload_n 1, 1) := by decide +kernel
theorem d_X11_led_22 : decode cX11_led 22 = .ok (.ifCond .ne 13, 3) := by decide +kernel
theorem d_X11_led_25 : decode cX11_led 25 = .ok (.aload_n 0, 1) := by decide +kernel
theorem d_X11_led_26 : decode cX11_led 26 = .ok (.getfield 49, 3) := by decide +kernel
theorem d_X11_led_29 : decode cX11_led 29 = .ok (.getfield 303, 3) := by decide +kernel
theorem d_X11_led_32 : decode cX11_led 32 = .ok (.goto 14, 3) := by decide +kernel
theorem d_X11_led_35 : decode cX11_led 35 = .ok (.aload_n 0, 1) := by decide +kernel
theorem d_X11_led_36 : decode cX11_led 36 = .ok (.getfield 49, 3) := by decide +kernel
theorem d_X11_led_39 : decode cX11_led 39 = .ok (.aload_n 0, 1) := by decide +kernel
theorem d_X11_led_40 : decode cX11_led 40 = .ok (.getfield 10, 3) := by decide +kernel
theorem d_X11_led_43 : decode cX11_led 43 = .ok (.invokevirtual 306, 3) := by decide +kernel
theorem d_X11_led_46 : decode cX11_led 46 = .ok (.ireturn, 1) := by decide +kernel
set_option maxHeartbeats 4000000 in
set_option maxRecDepth 100000 in
theorem t_X11_led {X : XT_x} {G : GT_g} {M : Mem_m} {z : (Mem_m × Int)} (C : Cx_ (K_X11_led) X G) (hR : Rx_ X G (some .int)) (x0 : Nat) (x1 : Int) (o_x1 : ok_i x1) (h : f_X11_led G.2.2.2 M x0 x1 = some z) : V_ (K_X11_led) X G (Fq_ X G (Qi_ G z.1 z.2)) M 0 [(0, .ref (G.1 + x0)), (1, iv_i x1)] [] := by
  unfold f_X11_led at h
  refine V_iload_n (j := 1) C d_X11_led_0 rfl rfl ?_
  refine V_iconst C d_X11_led_1 ?_
  refine V_callSri (K' := K_X11_isIn) (av := [iv_i x1, iv_i 2]) (rest := []) ys_X11_isIn C (yk_X11_isIn) l1_X11_61 (by decide) d_X11_led_2 (fun v hv => ct_X11_isIn x1 2 o_x1 (okc rfl) hv) rfl rfl (Nat.le_of_ble_eq_true rfl) h (fun v1 o1 h => ?_)
  refine V_if_ne (tgt := 10) C d_X11_led_5 (by decide) o1 h (fun h => ?_) (fun h => ?_)
  · skip
    refine V_iconst C d_X11_led_8 ?_
    exact V_iret_w C hR d_X11_led_9 (okc rfl) h
  · skip
    refine V_aload_n (j := 0) C d_X11_led_10 rfl rfl ?_
    refine V_getR C ck_11 fw_X11_49 d_X11_led_11 h (fun v2 h => ?_)
    refine V_aload_n (j := 0) C d_X11_led_14 rfl rfl ?_
    refine V_getR C ck_11 fw_X11_10 d_X11_led_15 h (fun v3 h => ?_)
    refine V_callVwv (K' := K_X4_makeAsTold) (a := v2) (ci := 4) (av := [.ref (G.1 + v3)]) (rest := []) yi_X4_makeAsTold (by decide) rfl C (yk_X4_makeAsTold) l1_X11_298 (by decide) d_X11_led_18 (fun v hv => ct_X4_makeAsTold v2 v3 hv) rfl rfl (Nat.le_of_ble_eq_true rfl) h (fun M4 h => ?_)
    refine V_iload_n (j := 1) C d_X11_led_21 rfl rfl ?_
    refine V_if_ne (tgt := 35) C d_X11_led_22 (by decide) o_x1 h (fun h => ?_) (fun h => ?_)
    · skip
      refine V_aload_n (j := 0) C d_X11_led_25 rfl rfl ?_
      refine V_getR C ck_11 fw_X11_49 d_X11_led_26 h (fun v5 h => ?_)
      refine V_getI C ck_4 fw_X11_303 d_X11_led_29 h (fun v6 o6 h => ?_)
      refine V_goto (tgt := 46) C d_X11_led_32 (by decide) ?_
      exact V_iret_w C hR d_X11_led_46 o6 h
    · skip
      refine V_aload_n (j := 0) C d_X11_led_35 rfl rfl ?_
      refine V_getR C ck_11 fw_X11_49 d_X11_led_36 h (fun v7 h => ?_)
      refine V_aload_n (j := 0) C d_X11_led_39 rfl rfl ?_
      refine V_getR C ck_11 fw_X11_10 d_X11_led_40 h (fun v8 h => ?_)
      refine V_callVri (K' := K_X4_ledPairs) (a := v7) (ci := 4) (av := [.ref (G.1 + v8)]) (rest := []) yi_X4_ledPairs (by decide) rfl C (yk_X4_ledPairs) l1_X11_306 (by decide) d_X11_led_43 (fun v hv => ct_X4_ledPairs v7 v8 hv) rfl rfl (Nat.le_of_ble_eq_true rfl) h (fun v9 o9 h => ?_)
      exact V_iret_w C hR d_X11_led_46 o9 h
set_option maxHeartbeats 4000000 in
set_option maxRecDepth 100000 in
theorem ct_X11_led {l : Launch} {G : GT_g} {M : Mem_m} (x0 : Nat) (x1 : Int) (o_x1 : ok_i x1) {z : (Mem_m × Int)} (h : f_X11_led G.2.2.2 M x0 x1 = some z) : MI_ l yX11_led K_X11_led (some .int) G M [.ref (G.1 + x0), iv_i x1] z.1 z.2 :=
  met_of (by decide +kernel) rfl (Nat.le_of_ble_eq_true rfl) (fun X hl C hR => by subst hl; exact t_X11_led C hR x0 x1 o_x1 h)
theorem d_X11_odds_0 : decode cX11_odds 0 = .ok (.iload_n 1, 1) := by decide +kernel
theorem d_X11_odds_1 : decode cX11_odds 1 = .ok (.iconst 2, 1) := by decide +kernel
theorem d_X11_odds_2 : decode cX11_odds 2 = .ok (.invokestatic 61, 3) := by decide +kernel
theorem d_X11_odds_5 : decode cX11_odds 5 = .ok (.ifCond .ne 5, 3) := by decide +kernel
theorem d_X11_odds_8 : decode cX11_odds 8 = .ok (.iconst (-1), 1) := by decide +kernel
theorem d_X11_odds_9 : decode cX11_odds 9 = .ok (.ireturn, 1) := by decide +kernel
theorem d_X11_odds_10 : decode cX11_odds 10 = .ok (.aload_n 0, 1) := by decide +kernel
theorem d_X11_odds_11 : decode cX11_odds 11 = .ok (.getfield 10, 3) := by decide +kernel
theorem d_X11_odds_14 : decode cX11_odds 14 = .ok (.getfield 288, 3) := by decide +kernel
theorem d_X11_odds_17 : decode cX11_odds 17 = .ok (.bipush 7, 2) := by decide +kernel
theorem d_X11_odds_19 : decode cX11_odds 19 = .ok (.if_icmp .le 6, 3) := by decide +kernel
theorem d_X11_odds_22 : decode cX11_odds 22 = .ok (.bipush (-3), 2) := by decide +kernel
theorem d_X11_odds_24 : decode cX11_odds 24 = .ok (.ireturn, 1) := by decide +kernel
theorem d_X11_odds_25 : decode cX11_odds 25 = .ok (.aload_n 0, 1) := by decide +kernel
theorem d_X11_odds_26 : decode cX11_odds 26 = .ok (.getfield 10, 3) := by decide +kernel
theorem d_X11_odds_29 : decode cX11_odds 29 = .ok (.getfield 288, 3) := by decide +kernel
theorem d_X11_odds_32 : decode cX11_odds 32 = .ok (.invokestatic 310, 3) := by decide +kernel
theorem d_X11_odds_35 : decode cX11_odds 35 = .ok (.istore_n 2, 1) := by decide +kernel
theorem d_X11_odds_36 : decode cX11_odds 36 = .ok (.iload_n 1, 1) := by decide +kernel
theorem d_X11_odds_37 : decode cX11_odds 37 = .ok (.ifCond .ne 18, 3) := by decide +kernel
theorem d_X11_odds_40 : decode cX11_odds 40 = .ok (.aload_n 0, 1) := by decide +kernel
theorem d_X11_odds_41 : decode cX11_odds 41 = .ok (.getfield 49, 3) := by decide +kernel
theorem d_X11_odds_44 : decode cX11_odds 44 = .ok (.aload_n 0, 1) := by decide +kernel
theorem d_X11_odds_45 : decode cX11_odds 45 = .ok (.getfield 10, 3) := by decide +kernel
theorem d_X11_odds_48 : decode cX11_odds 48 = .ok (.iload_n 2, 1) := by decide +kernel
theorem d_X11_odds_49 : decode cX11_odds 49 = .ok (.invokevirtual 313, 3) := by decide +kernel
theorem d_X11_odds_52 : decode cX11_odds 52 = .ok (.goto 4, 3) := by decide +kernel
theorem d_X11_odds_55 : decode cX11_odds 55 = .ok (.iload_n 2, 1) := by decide +kernel
theorem d_X11_odds_56 : decode cX11_odds 56 = .ok (.ireturn, 1) := by decide +kernel
set_option maxHeartbeats 4000000 in
set_option maxRecDepth 100000 in
theorem t_X11_odds {X : XT_x} {G : GT_g} {M : Mem_m} {z : (Mem_m × Int)} (C : Cx_ (K_X11_odds) X G) (hR : Rx_ X G (some .int)) (x0 : Nat) (x1 : Int) (o_x1 : ok_i x1) (h : f_X11_odds G.2.2.2 M x0 x1 = some z) : V_ (K_X11_odds) X G (Fq_ X G (Qi_ G z.1 z.2)) M 0 [(0, .ref (G.1 + x0)), (1, iv_i x1)] [] := by
  unfold f_X11_odds at h
  refine V_iload_n (j := 1) C d_X11_odds_0 rfl rfl ?_
  refine V_iconst C d_X11_odds_1 ?_
  refine V_callSri (K' := K_X11_isIn) (av := [iv_i x1, iv_i 2]) (rest := []) ys_X11_isIn C (yk_X11_isIn) l1_X11_61 (by decide) d_X11_odds_2 (fun v hv => ct_X11_isIn x1 2 o_x1 (okc rfl) hv) rfl rfl (Nat.le_of_ble_eq_true rfl) h (fun v1 o1 h => ?_)
  refine V_if_ne (tgt := 10) C d_X11_odds_5 (by decide) o1 h (fun h => ?_) (fun h => ?_)
  · skip
    refine V_iconst C d_X11_odds_8 ?_
    exact V_iret_w C hR d_X11_odds_9 (okc rfl) h
  · skip
    refine V_aload_n (j := 0) C d_X11_odds_10 rfl rfl ?_
    refine V_getR C ck_11 fw_X11_10 d_X11_odds_11 h (fun v2 h => ?_)
    refine V_getI C ck_0 fw_X11_288 d_X11_odds_14 h (fun v3 o3 h => ?_)
    refine V_bipush (v := 7) C d_X11_odds_17 rfl ?_
    refine V_icmp_le (tgt := 25) C d_X11_odds_19 (by decide) o3 (okc rfl) h (fun h => ?_) (fun h => ?_)
    · skip
      refine V_aload_n (j := 0) C d_X11_odds_25 rfl rfl ?_
      refine V_getR C ck_11 fw_X11_10 d_X11_odds_26 h (fun v4 h => ?_)
      refine V_getI C ck_0 fw_X11_288 d_X11_odds_29 h (fun v5 o5 h => ?_)
      refine V_callSri (K' := K_X4_waysToDeal) (av := [iv_i v5]) (rest := []) ys_X4_waysToDeal C (yk_X4_waysToDeal) l1_X11_310 (by decide) d_X11_odds_32 (fun v hv => ct_X4_waysToDeal v5 o5 hv) rfl rfl (Nat.le_of_ble_eq_true rfl) h (fun v6 o6 h => ?_)
      refine V_istore_n (lv' := [(2, iv_i v6), (0, .ref (G.1 + x0)), (1, iv_i x1)]) C d_X11_odds_35 rfl (by decide) rfl ?_
      refine V_iload_n (j := 2) C d_X11_odds_36 rfl rfl ?_
      refine V_if_ne (tgt := 55) C d_X11_odds_37 (by decide) o_x1 h (fun h => ?_) (fun h => ?_)
      · skip
        refine V_aload_n (j := 1) C d_X11_odds_40 rfl rfl ?_
        refine V_getR C ck_11 fw_X11_49 d_X11_odds_41 h (fun v7 h => ?_)
        refine V_aload_n (j := 1) C d_X11_odds_44 rfl rfl ?_
        refine V_getR C ck_11 fw_X11_10 d_X11_odds_45 h (fun v8 h => ?_)
        refine V_iload_n (j := 0) C d_X11_odds_48 rfl rfl ?_
        refine V_callVwi (K' := K_X4_countOdds) (a := v7) (ci := 4) (av := [.ref (G.1 + v8), iv_i v6]) (rest := []) yi_X4_countOdds (by decide) rfl C (yk_X4_countOdds) l1_X11_313 (by decide) d_X11_odds_49 (fun v hv => ct_X4_countOdds v7 v8 v6 o6 hv) rfl rfl (Nat.le_of_ble_eq_true rfl) h (fun z9 o9 h => ?_)
        refine V_goto (tgt := 56) C d_X11_odds_52 (by decide) ?_
        exact V_iret_w C hR d_X11_odds_56 o9 h
      · skip
        refine V_iload_n (j := 0) C d_X11_odds_55 rfl rfl ?_
        exact V_iret_w C hR d_X11_odds_56 o6 h
    · skip
      refine V_bipush (v := (-3)) C d_X11_odds_22 rfl ?_
      exact V_iret_w C hR d_X11_odds_24 (okc rfl) h
set_option maxHeartbeats 4000000 in
set_option maxRecDepth 100000 in
theorem ct_X11_odds {l : Launch} {G : GT_g} {M : Mem_m} (x0 : Nat) (x1 : Int) (o_x1 : ok_i x1) {z : (Mem_m × Int)} (h : f_X11_odds G.2.2.2 M x0 x1 = some z) : MI_ l yX11_odds K_X11_odds (some .int) G M [.ref (G.1 + x0), iv_i x1] z.1 z.2 :=
  met_of (by decide +kernel) rfl (Nat.le_of_ble_eq_true rfl) (fun X hl C hR => by subst hl; exact t_X11_odds C hR x0 x1 o_x1 h)
theorem d_X11_bar_0 : decode cX11_bar 0 = .ok (.iload_n 1, 1) := by decide +kernel
theorem d_X11_bar_1 : decode cX11_bar 1 = .ok (.bipush 8, 2) := by decide +kernel
theorem d_X11_bar_3 : decode cX11_bar 3 = .ok (.invokestatic 61, 3) := by decide +kernel
theorem d_X11_bar_6 : decode cX11_bar 6 = .ok (.ifCond .ne 5, 3) := by decide +kernel
theorem d_X11_bar_9 : decode cX11_bar 9 = .ok (.iconst (-1), 1) := by decide +kernel
theorem d_X11_bar_10 : decode cX11_bar 10 = .ok (.ireturn, 1) := by decide +kernel
theorem d_X11_bar_11 : decode cX11_bar 11 = .ok (.iload_n 2, 1) := by decide +kernel
theorem d_X11_bar_12 : decode cX11_bar 12 = .ok (.ifCond .eq 7, 3) := by decide +kernel
theorem d_X11_bar_15 : decode cX11_bar 15 = .ok (.iconst 0, 1) := by decide +kernel
theorem d_X11_bar_16 : decode cX11_bar 16 = .ok (.goto 4, 3) := by decide +kernel
theorem d_X11_bar_19 : decode cX11_bar 19 = .ok (.iconst 1, 1) := by decide +kernel
theorem d_X11_bar_20 : decode cX11_bar 20 = .ok (.istore_n 3, 1) := by decide +kernel
theorem d_X11_bar_21 : decode cX11_bar 21 = .ok (.iconst 0, 1) := by decide +kernel
theorem d_X11_bar_22 : decode cX11_bar 22 = .ok (.istore 4, 2) := by decide +kernel
theorem d_X11_bar_24 : decode cX11_bar 24 = .ok (.iconst 0, 1) := by decide +kernel
theorem d_X11_bar_25 : decode cX11_bar 25 = .ok (.istore 5, 2) := by decide +kernel
theorem d_X11_bar_27 : decode cX11_bar 27 = .ok (.iload 5, 2) := by decide +kernel
theorem d_X11_bar_29 : decode cX11_bar 29 = .ok (.aload_n 0, 1) := by decide +kernel
theorem d_X11_bar_30 : decode cX11_bar 30 = .ok (.getfield 10, 3) := by decide +kernel
theorem d_X11_bar_33 : decode cX11_bar 33 = .ok (.getfield 69, 3) := by decide +kernel
theorem d_X11_bar_36 : decode cX11_bar 36 = .ok (.if_icmp .ge 56, 3) := by decide +kernel
theorem d_X11_bar_39 : decode cX11_bar 39 = .ok (.aload_n 0, 1) := by decide +kernel
theorem d_X11_bar_40 : decode cX11_bar 40 = .ok (.getfield 10, 3) := by decide +kernel
theorem d_X11_bar_43 : decode cX11_bar 43 = .ok (.getfield 77, 3) := by decide +kernel
theorem d_X11_bar_46 : decode cX11_bar 46 = .ok (.iload 5, 2) := by decide +kernel
theorem d_X11_bar_48 : decode cX11_bar 48 = .ok (.aaload, 1) := by decide +kernel
theorem d_X11_bar_49 : decode cX11_bar 49 = .ok (.astore 6, 2) := by decide +kernel
theorem d_X11_bar_51 : decode cX11_bar 51 = .ok (.aload 6, 2) := by decide +kernel
theorem d_X11_bar_53 : decode cX11_bar 53 = .ok (.getfield 96, 3) := by decide +kernel
theorem d_X11_bar_56 : decode cX11_bar 56 = .ok (.iload_n 1, 1) := by decide +kernel
theorem d_X11_bar_57 : decode cX11_bar 57 = .ok (.if_icmp .ne 29, 3) := by decide +kernel
theorem d_X11_bar_60 : decode cX11_bar 60 = .ok (.aload 6, 2) := by decide +kernel
theorem d_X11_bar_62 : decode cX11_bar 62 = .ok (.getfield 109, 3) := by decide +kernel
theorem d_X11_bar_65 : decode cX11_bar 65 = .ok (.iload_n 3, 1) := by decide +kernel
theorem d_X11_bar_66 : decode cX11_bar 66 = .ok (.if_icmp .ne 20, 3) := by decide +kernel
theorem d_X11_bar_69 : decode cX11_bar 69 = .ok (.aload 6, 2) := by decide +kernel
theorem d_X11_bar_71 : decode cX11_bar 71 = .ok (.iload_n 2, 1) := by decide +kernel
theorem d_X11_bar_72 : decode cX11_bar 72 = .ok (.ifCond .eq 7, 3) := by decide +kernel
theorem d_X11_bar_75 : decode cX11_bar 75 = .ok (.iconst 1, 1) := by decide +kernel
theorem d_X11_bar_76 : decode cX11_bar 76 = .ok (.goto 4, 3) := by decide +kernel
theorem d_X11_bar_79 : decode cX11_bar 79 = .ok (.iconst 0, 1) := by decide +kernel
theorem d_X11_bar_80 : decode cX11_bar 80 = .ok (.putfield 109, 3) := by decide +kernel
theorem d_X11_bar_83 : decode cX11_bar 83 = .ok (.iinc 4 1, 3) := by decide +kernel
theorem d_X11_bar_86 : decode cX11_bar 86 = .ok (.iinc 5 1, 3) := by decide +kernel
theorem d_X11_bar_89 : decode cX11_bar 89 = .ok (.goto (-62), 3) := by decide +kernel
theorem d_X11_bar_92 : decode cX11_bar 92 = .ok (.iload 4, 2) := by decide +kernel
theorem d_X11_bar_94 : decode cX11_bar 94 = .ok (.ireturn, 1) := by decide +kernel
set_option maxHeartbeats 4000000 in
set_option maxRecDepth 100000 in
theorem t_X11_bar_27 {X : XT_x} {G : GT_g} {z : (Mem_m × Int)} (C : Cx_ (K_X11_bar) X G) (hR : Rx_ X G (some .int)) (x0 : Nat) (x1 : Int) (x2 : Int) (x3 : Int) (o_x1 : ok_i x1) (o_x2 : ok_i x2) (o_x3 : ok_i x3) : ∀ (n : Nat) (M : Mem_m) (x4 : Int) (x5 : Int) (o_x4 : ok_i x4) (o_x5 : ok_i x5), f_X11_bar_27 G.2.2.2 x0 x1 x2 x3 n M x4 x5 = some z → V_ (K_X11_bar) X G (Fq_ X G (Qi_ G z.1 z.2)) M 27 [(0, .ref (G.1 + x0)), (1, iv_i x1), (2, iv_i x2), (3, iv_i x3), (4, iv_i x4), (5, iv_i x5)] [] := by
  intro n
  induction n with
  | zero => intro M x4 x5 o_x4 o_x5 h; exact absurd h (by simp [f_X11_bar_27])
  | succ n ih =>
    intro M x4 x5 o_x4 o_x5 h
    unfold f_X11_bar_27 at h
    refine V_iload (j := 5) C d_X11_bar_27 rfl ?_
    refine V_aload_n (j := 0) C d_X11_bar_29 rfl rfl ?_
    refine V_getR C ck_11 fw_X11_10 d_X11_bar_30 h (fun v1 h => ?_)
    refine V_getI C ck_0 fw_X11_69 d_X11_bar_33 h (fun v2 o2 h => ?_)
    refine V_icmp_ge (tgt := 92) C d_X11_bar_36 (by decide) o_x5 o2 h (fun h => ?_) (fun h => ?_)
    · skip
      refine V_aload_n (j := 0) C d_X11_bar_39 rfl rfl ?_
      refine V_getR C ck_11 fw_X11_10 d_X11_bar_40 h (fun v3 h => ?_)
      refine V_getR C ck_0 fw_X11_77 d_X11_bar_43 h (fun v4 h => ?_)
      refine V_iload (j := 5) C d_X11_bar_46 rfl ?_
      refine V_aald (t := 0) C tc_0 d_X11_bar_48 o_x5 h (fun v5 h => ?_)
      refine V_astore (lv' := [(6, .ref (G.1 + v5)), (0, .ref (G.1 + x0)), (1, iv_i x1), (2, iv_i x2), (3, iv_i x3), (4, iv_i x4), (5, iv_i x5)]) C d_X11_bar_49 (by decide) rfl ?_
      refine V_aload (j := 0) C d_X11_bar_51 rfl ?_
      refine V_getI C ck_1 fw_X11_96 d_X11_bar_53 h (fun v6 o6 h => ?_)
      refine V_iload_n (j := 2) C d_X11_bar_56 rfl rfl ?_
      refine V_icmp_ne (tgt := 86) C d_X11_bar_57 (by decide) o6 o_x1 h (fun h => ?_) (fun h => ?_)
      · skip
        refine V_aload (j := 0) C d_X11_bar_60 rfl ?_
        refine V_getI C ck_1 fw_X11_109 d_X11_bar_62 h (fun v7 o7 h => ?_)
        refine V_iload_n (j := 4) C d_X11_bar_65 rfl rfl ?_
        refine V_icmp_ne (tgt := 86) C d_X11_bar_66 (by decide) o7 o_x3 h (fun h => ?_) (fun h => ?_)
        · skip
          refine V_aload (j := 0) C d_X11_bar_69 rfl ?_
          refine V_iload_n (j := 3) C d_X11_bar_71 rfl rfl ?_
          refine V_if_eq (tgt := 79) C d_X11_bar_72 (by decide) o_x2 h (fun h => ?_) (fun h => ?_)
          · skip
            refine V_iconst C d_X11_bar_79 ?_
            refine V_putI C ck_1 fw_X11_109 fp_1_6 d_X11_bar_80 (okc rfl) h (fun M8 h => ?_)
            refine V_iinc (j := 5) (lv' := [(4, iv_i (wr_i (x4 + 1))), (6, .ref (G.1 + v5)), (0, .ref (G.1 + x0)), (1, iv_i x1), (2, iv_i x2), (3, iv_i x3), (5, iv_i x5)]) C d_X11_bar_83 rfl (by decide) rfl ?_
            refine V_iinc (j := 6) (lv' := [(5, iv_i (wr_i (x5 + 1))), (4, iv_i (wr_i (x4 + 1))), (6, .ref (G.1 + v5)), (0, .ref (G.1 + x0)), (1, iv_i x1), (2, iv_i x2), (3, iv_i x3)]) C d_X11_bar_86 rfl (by decide) rfl ?_
            refine V_goto (tgt := 27) C d_X11_bar_89 (by decide) ?_
            refine V_lv [3, 4, 5, 6, 1, 0] rfl (ih M8 (wr_i (x4 + 1)) (wr_i (x5 + 1)) (ok_wr _) (ok_wr _) h)
          · skip
            refine V_iconst C d_X11_bar_75 ?_
            refine V_goto (tgt := 80) C d_X11_bar_76 (by decide) ?_
            refine V_putI C ck_1 fw_X11_109 fp_1_6 d_X11_bar_80 (okc rfl) h (fun M9 h => ?_)
            refine V_iinc (j := 5) (lv' := [(4, iv_i (wr_i (x4 + 1))), (6, .ref (G.1 + v5)), (0, .ref (G.1 + x0)), (1, iv_i x1), (2, iv_i x2), (3, iv_i x3), (5, iv_i x5)]) C d_X11_bar_83 rfl (by decide) rfl ?_
            refine V_iinc (j := 6) (lv' := [(5, iv_i (wr_i (x5 + 1))), (4, iv_i (wr_i (x4 + 1))), (6, .ref (G.1 + v5)), (0, .ref (G.1 + x0)), (1, iv_i x1), (2, iv_i x2), (3, iv_i x3)]) C d_X11_bar_86 rfl (by decide) rfl ?_
            refine V_goto (tgt := 27) C d_X11_bar_89 (by decide) ?_
            refine V_lv [3, 4, 5, 6, 1, 0] rfl (ih M9 (wr_i (x4 + 1)) (wr_i (x5 + 1)) (ok_wr _) (ok_wr _) h)
        · skip
          refine V_iinc (j := 6) (lv' := [(5, iv_i (wr_i (x5 + 1))), (6, .ref (G.1 + v5)), (0, .ref (G.1 + x0)), (1, iv_i x1), (2, iv_i x2), (3, iv_i x3), (4, iv_i x4)]) C d_X11_bar_86 rfl (by decide) rfl ?_
          refine V_goto (tgt := 27) C d_X11_bar_89 (by decide) ?_
          refine V_lv [2, 3, 4, 5, 6, 0] rfl (ih M x4 (wr_i (x5 + 1)) o_x4 (ok_wr _) h)
      · skip
        refine V_iinc (j := 6) (lv' := [(5, iv_i (wr_i (x5 + 1))), (6, .ref (G.1 + v5)), (0, .ref (G.1 + x0)), (1, iv_i x1), (2, iv_i x2), (3, iv_i x3), (4, iv_i x4)]) C d_X11_bar_86 rfl (by decide) rfl ?_
        refine V_goto (tgt := 27) C d_X11_bar_89 (by decide) ?_
        refine V_lv [2, 3, 4, 5, 6, 0] rfl (ih M x4 (wr_i (x5 + 1)) o_x4 (ok_wr _) h)
    · skip
      refine V_iload (j := 4) C d_X11_bar_92 rfl ?_
      exact V_iret_w C hR d_X11_bar_94 o_x4 h
set_option maxHeartbeats 4000000 in
set_option maxRecDepth 100000 in
theorem t_X11_bar {X : XT_x} {G : GT_g} {M : Mem_m} {z : (Mem_m × Int)} (C : Cx_ (K_X11_bar) X G) (hR : Rx_ X G (some .int)) (x0 : Nat) (x1 : Int) (x2 : Int) (o_x1 : ok_i x1) (o_x2 : ok_i x2) (h : f_X11_bar G.2.2.2 M x0 x1 x2 = some z) : V_ (K_X11_bar) X G (Fq_ X G (Qi_ G z.1 z.2)) M 0 [(0, .ref (G.1 + x0)), (1, iv_i x1), (2, iv_i x2)] [] := by
  unfold f_X11_bar at h
  refine V_iload_n (j := 1) C d_X11_bar_0 rfl rfl ?_
  refine V_bipush (v := 8) C d_X11_bar_1 rfl ?_
  refine V_callSri (K' := K_X11_isIn) (av := [iv_i x1, iv_i 8]) (rest := []) ys_X11_isIn C (yk_X11_isIn) l1_X11_61 (by decide) d_X11_bar_3 (fun v hv => ct_X11_isIn x1 8 o_x1 (okc rfl) hv) rfl rfl (Nat.le_of_ble_eq_true rfl) h (fun v1 o1 h => ?_)
  refine V_if_ne (tgt := 11) C d_X11_bar_6 (by decide) o1 h (fun h => ?_) (fun h => ?_)
  · skip
    refine V_iconst C d_X11_bar_9 ?_
    exact V_iret_w C hR d_X11_bar_10 (okc rfl) h
  · skip
    refine V_iload_n (j := 2) C d_X11_bar_11 rfl rfl ?_
    refine V_if_eq (tgt := 19) C d_X11_bar_12 (by decide) o_x2 h (fun h => ?_) (fun h => ?_)
    · skip
      refine V_iconst C d_X11_bar_19 ?_
      refine V_istore_n (lv' := [(3, iv_i 1), (0, .ref (G.1 + x0)), (1, iv_i x1), (2, iv_i x2)]) C d_X11_bar_20 rfl (by decide) rfl ?_
      refine V_iconst C d_X11_bar_21 ?_
      refine V_istore (lv' := [(4, iv_i 0), (3, iv_i 1), (0, .ref (G.1 + x0)), (1, iv_i x1), (2, iv_i x2)]) C d_X11_bar_22 (by decide) rfl ?_
      refine V_iconst C d_X11_bar_24 ?_
      refine V_istore (lv' := [(5, iv_i 0), (4, iv_i 0), (3, iv_i 1), (0, .ref (G.1 + x0)), (1, iv_i x1), (2, iv_i x2)]) C d_X11_bar_25 (by decide) rfl ?_
      refine V_lv [3, 4, 5, 2, 1, 0] rfl (t_X11_bar_27 C hR x0 x1 x2 1 o_x1 o_x2 (okc rfl) FU_ M 0 0 (okc rfl) (okc rfl) h)
    · skip
      refine V_iconst C d_X11_bar_15 ?_
      refine V_goto (tgt := 20) C d_X11_bar_16 (by decide) ?_
      refine V_istore_n (lv' := [(3, iv_i 0), (0, .ref (G.1 + x0)), (1, iv_i x1), (2, iv_i x2)]) C d_X11_bar_20 rfl (by decide) rfl ?_
      refine V_iconst C d_X11_bar_21 ?_
      refine V_istore (lv' := [(4, iv_i 0), (3, iv_i 0), (0, .ref (G.1 + x0)), (1, iv_i x1), (2, iv_i x2)]) C d_X11_bar_22 (by decide) rfl ?_
      refine V_iconst C d_X11_bar_24 ?_
      refine V_istore (lv' := [(5, iv_i 0), (4, iv_i 0), (3, iv_i 0), (0, .ref (G.1 + x0)), (1, iv_i x1), (2, iv_i x2)]) C d_X11_bar_25 (by decide) rfl ?_
      refine V_lv [3, 4, 5, 2, 1, 0] rfl (t_X11_bar_27 C hR x0 x1 x2 0 o_x1 o_x2 (okc rfl) FU_ M 0 0 (okc rfl) (okc rfl) h)
set_option maxHeartbeats 4000000 in
set_option maxRecDepth 100000 in
theorem ct_X11_bar {l : Launch} {G : GT_g} {M : Mem_m} (x0 : Nat) (x1 : Int) (x2 : Int) (o_x1 : ok_i x1) (o_x2 : ok_i x2) {z : (Mem_m × Int)} (h : f_X11_bar G.2.2.2 M x0 x1 x2 = some z) : MI_ l yX11_bar K_X11_bar (some .int) G M [.ref (G.1 + x0), iv_i x1, iv_i x2] z.1 z.2 :=
  met_of (by decide +kernel) rfl (Nat.le_of_ble_eq_true rfl) (fun X hl C hR => by subst hl; exact t_X11_bar C hR x0 x1 x2 o_x1 o_x2 h)
theorem d_X11_takeBack_0 : decode cX11_takeBack 0 = .ok (.iload_n 1, 1) := by decide +kernel
theorem d_X11_takeBack_1 : decode cX11_takeBack 1 = .ok (.aload_n 0, 1) := by decide +kernel
theorem d_X11_takeBack_2 : decode cX11_takeBack 2 = .ok (.getfield 10, 3) := by decide +kernel
theorem d_X11_takeBack_5 : decode cX11_takeBack 5 = .ok (.getfield 69, 3) := by decide +kernel
theorem d_X11_takeBack_8 : decode cX11_takeBack 8 = .ok (.invokestatic 61, 3) := by decide +kernel
theorem d_X11_takeBack_11 : decode cX11_takeBack 11 = .ok (.ifCond .ne 5, 3) := by decide +kernel
theorem d_X11_takeBack_14 : decode cX11_takeBack 14 = .ok (.iconst (-1), 1) := by decide +kernel
theorem d_X11_takeBack_15 : decode cX11_takeBack 15 = .ok (.ireturn, 1) := by decide +kernel
theorem d_X11_takeBack_16 : decode cX11_takeBack 16 = .ok (.aload_n 0, 1) := by decide +kernel
theorem d_X11_takeBack_17 : decode cX11_takeBack 17 = .ok (.getfield 10, 3) := by decide +kernel
theorem d_X11_takeBack_20 : decode cX11_takeBack 20 = .ok (.getfield 77, 3) := by decide +kernel
theorem d_X11_takeBack_23 : decode cX11_takeBack 23 = .ok (.iload_n 1, 1) := by decide +kernel
theorem d_X11_takeBack_24 : decode cX11_takeBack 24 = .ok (.aaload, 1) := by decide +kernel
theorem d_X11_takeBack_25 : decode cX11_takeBack 25 = .ok (.getfield 109, 3) := by decide +kernel
theorem d_X11_takeBack_28 : decode cX11_takeBack 28 = .ok (.iconst 2, 1) := by decide +kernel
theorem d_X11_takeBack_29 : decode cX11_takeBack 29 = .ok (.if_icmp .ne 5, 3) := by decide +kernel
theorem d_X11_takeBack_32 : decode cX11_takeBack 32 = .ok (.iconst 0, 1) := by decide +kernel
theorem d_X11_takeBack_33 : decode cX11_takeBack 33 = .ok (.ireturn, 1) := by decide +kernel
theorem d_X11_takeBack_34 : decode cX11_takeBack 34 = .ok (.aload_n 0, 1) := by decide +kernel
theorem d_X11_takeBack_35 : decode cX11_takeBack 35 = .ok (.getfield 10, 3) := by decide +kernel
theorem d_X11_takeBack_38 : decode cX11_takeBack 38 = .ok (.getfield 77, 3) := by decide +kernel
theorem d_X11_takeBack_41 : decode cX11_takeBack 41 = .ok (.iload_n 1, 1) := by decide +kernel
theorem d_X11_takeBack_42 : decode cX11_takeBack 42 = .ok (.aaload, 1) := by decide +kernel
theorem d_X11_takeBack_43 : decode cX11_takeBack 43 = .ok (.iconst 2, 1) := by decide +kernel
theorem d_X11_takeBack_44 : decode cX11_takeBack 44 = .ok (.putfield 109, 3) := by decide +kernel
theorem d_X11_takeBack_47 : decode cX11_takeBack 47 = .ok (.iconst 1, 1) := by decide +kernel
theorem d_X11_takeBack_48 : decode cX11_takeBack 48 = .ok (.ireturn, 1) := by decide +kernel
set_option maxHeartbeats 4000000 in
set_option maxRecDepth 100000 in
theorem t_X11_takeBack {X : XT_x} {G : GT_g} {M : Mem_m} {z : (Mem_m × Int)} (C : Cx_ (K_X11_takeBack) X G) (hR : Rx_ X G (some .int)) (x0 : Nat) (x1 : Int) (o_x1 : ok_i x1) (h : f_X11_takeBack G.2.2.2 M x0 x1 = some z) : V_ (K_X11_takeBack) X G (Fq_ X G (Qi_ G z.1 z.2)) M 0 [(0, .ref (G.1 + x0)), (1, iv_i x1)] [] := by
  unfold f_X11_takeBack at h
  refine V_iload_n (j := 1) C d_X11_takeBack_0 rfl rfl ?_
  refine V_aload_n (j := 0) C d_X11_takeBack_1 rfl rfl ?_
  refine V_getR C ck_11 fw_X11_10 d_X11_takeBack_2 h (fun v1 h => ?_)
  refine V_getI C ck_0 fw_X11_69 d_X11_takeBack_5 h (fun v2 o2 h => ?_)
  refine V_callSri (K' := K_X11_isIn) (av := [iv_i x1, iv_i v2]) (rest := []) ys_X11_isIn C (yk_X11_isIn) l1_X11_61 (by decide) d_X11_takeBack_8 (fun v hv => ct_X11_isIn x1 v2 o_x1 o2 hv) rfl rfl (Nat.le_of_ble_eq_true rfl) h (fun v3 o3 h => ?_)
  refine V_if_ne (tgt := 16) C d_X11_takeBack_11 (by decide) o3 h (fun h => ?_) (fun h => ?_)
  · skip
    refine V_iconst C d_X11_takeBack_14 ?_
    exact V_iret_w C hR d_X11_takeBack_15 (okc rfl) h
  · skip
    refine V_aload_n (j := 0) C d_X11_takeBack_16 rfl rfl ?_
    refine V_getR C ck_11 fw_X11_10 d_X11_takeBack_17 h (fun v4 h => ?_)
    refine V_getR C ck_0 fw_X11_77 d_X11_takeBack_20 h (fun v5 h => ?_)
    refine V_iload_n (j := 1) C d_X11_takeBack_23 rfl rfl ?_
    refine V_aald (t := 0) C tc_0 d_X11_takeBack_24 o_x1 h (fun v6 h => ?_)
    refine V_getI C ck_1 fw_X11_109 d_X11_takeBack_25 h (fun v7 o7 h => ?_)
    refine V_iconst C d_X11_takeBack_28 ?_
    refine V_icmp_ne (tgt := 34) C d_X11_takeBack_29 (by decide) o7 (okc rfl) h (fun h => ?_) (fun h => ?_)
    · skip
      refine V_iconst C d_X11_takeBack_32 ?_
      exact V_iret_w C hR d_X11_takeBack_33 (okc rfl) h
    · skip
      refine V_aload_n (j := 0) C d_X11_takeBack_34 rfl rfl ?_
      refine V_getR C ck_11 fw_X11_10 d_X11_takeBack_35 h (fun v8 h => ?_)
      refine V_getR C ck_0 fw_X11_77 d_X11_takeBack_38 h (fun v9 h => ?_)
      refine V_iload_n (j := 1) C d_X11_takeBack_41 rfl rfl ?_
      refine V_aald (t := 0) C tc_0 d_X11_takeBack_42 o_x1 h (fun v10 h => ?_)
      refine V_iconst C d_X11_takeBack_43 ?_
      refine V_putI C ck_1 fw_X11_109 fp_1_6 d_X11_takeBack_44 (okc rfl) h (fun M11 h => ?_)
      refine V_iconst C d_X11_takeBack_47 ?_
      exact V_iret_w C hR d_X11_takeBack_48 (okc rfl) h
set_option maxHeartbeats 4000000 in
set_option maxRecDepth 100000 in
theorem ct_X11_takeBack {l : Launch} {G : GT_g} {M : Mem_m} (x0 : Nat) (x1 : Int) (o_x1 : ok_i x1) {z : (Mem_m × Int)} (h : f_X11_takeBack G.2.2.2 M x0 x1 = some z) : MI_ l yX11_takeBack K_X11_takeBack (some .int) G M [.ref (G.1 + x0), iv_i x1] z.1 z.2 :=
  met_of (by decide +kernel) rfl (Nat.le_of_ble_eq_true rfl) (fun X hl C hR => by subst hl; exact t_X11_takeBack C hR x0 x1 o_x1 h)
theorem d_X11_leaned_0 : decode cX11_leaned 0 = .ok (.iload_n 1, 1) := by decide +kernel
theorem d_X11_leaned_1 : decode cX11_leaned 1 = .ok (.aload_n 0, 1) := by decide +kernel
theorem d_X11_leaned_2 : decode cX11_leaned 2 = .ok (.getfield 10, 3) := by decide +kernel
theorem d_X11_leaned_5 : decode cX11_leaned 5 = .ok (.getfield 69, 3) := by decide +kernel
theorem d_X11_leaned_8 : decode cX11_leaned 8 = .ok (.invokestatic 61, 3) := by decide +kernel
theorem d_X11_leaned_11 : decode cX11_leaned 11 = .ok (.ifCond .ne 5, 3) := by decide +kernel
theorem d_X11_leaned_14 : decode cX11_leaned 14 = .ok (.iconst (-1), 1) := by decide +kernel
theorem d_X11_leaned_15 : decode cX11_leaned 15 = .ok (.ireturn, 1) := by decide +kernel
theorem d_X11_leaned_16 : decode cX11_leaned 16 = .ok (.aload_n 0, 1) := by decide +kernel
theorem d_X11_leaned_17 : decode cX11_leaned 17 = .ok (.getfield 10, 3) := by decide +kernel
theorem d_X11_leaned_20 : decode cX11_leaned 20 = .ok (.getfield 77, 3) := by decide +kernel
theorem d_X11_leaned_23 : decode cX11_leaned 23 = .ok (.iload_n 1, 1) := by decide +kernel
theorem d_X11_leaned_24 : decode cX11_leaned 24 = .ok (.aaload, 1) := by decide +kernel
theorem d_X11_leaned_25 : decode cX11_leaned 25 = .ok (.invokevirtual 278, 3) := by decide +kernel
theorem d_X11_leaned_28 : decode cX11_leaned 28 = .ok (.ifCond .ne 5, 3) := by decide +kernel
theorem d_X11_leaned_31 : decode cX11_leaned 31 = .ok (.iconst 0, 1) := by decide +kernel
theorem d_X11_leaned_32 : decode cX11_leaned 32 = .ok (.ireturn, 1) := by decide +kernel
theorem d_X11_leaned_33 : decode cX11_leaned 33 = .ok (.iconst 0, 1) := by decide +kernel
theorem d_X11_leaned_34 : decode cX11_leaned 34 = .ok (.istore_n 2, 1) := by decide +kernel
theorem d_X11_leaned_35 : decode cX11_leaned 35 = .ok (.iconst 0, 1) := by decide +kernel
theorem d_X11_leaned_36 : decode cX11_leaned 36 = .ok (.istore_n 3, 1) := by decide +kernel
theorem d_X11_leaned_37 : decode cX11_leaned 37 = .ok (.iload_n 3, 1) := by decide +kernel
theorem d_X11_leaned_38 : decode cX11_leaned 38 = .ok (.aload_n 0, 1) := by decide +kernel
theorem d_X11_leaned_39 : decode cX11_leaned 39 = .ok (.getfield 10, 3) := by decide +kernel
theorem d_X11_leaned_42 : decode cX11_leaned 42 = .ok (.getfield 69, 3) := by decide +kernel
theorem d_X11_leaned_45 : decode cX11_leaned 45 = .ok (.if_icmp .ge 59, 3) := by decide +kernel
theorem d_X11_leaned_48 : decode cX11_leaned 48 = .ok (.iload_n 3, 1) := by decide +kernel
theorem d_X11_leaned_49 : decode cX11_leaned 49 = .ok (.iload_n 1, 1) := by decide +kernel
theorem d_X11_leaned_50 : decode cX11_leaned 50 = .ok (.if_icmp .eq 48, 3) := by decide +kernel
theorem d_X11_leaned_53 : decode cX11_leaned 53 = .ok (.aload_n 0, 1) := by decide +kernel
theorem d_X11_leaned_54 : decode cX11_leaned 54 = .ok (.getfield 10, 3) := by decide +kernel
theorem d_X11_leaned_57 : decode cX11_leaned 57 = .ok (.getfield 77, 3) := by decide +kernel
theorem d_X11_leaned_60 : decode cX11_leaned 60 = .ok (.iload_n 3, 1) := by decide +kernel
theorem d_X11_leaned_61 : decode cX11_leaned 61 = .ok (.aaload, 1) := by decide +kernel
theorem d_X11_leaned_62 : decode cX11_leaned 62 = .ok (.invokevirtual 278, 3) := by decide +kernel
theorem d_X11_leaned_65 : decode cX11_leaned 65 = .ok (.ifCond .eq 33, 3) := by decide +kernel
theorem d_X11_leaned_68 : decode cX11_leaned 68 = .ok (.aload_n 0, 1) := by decide +kernel
theorem d_X11_leaned_69 : decode cX11_leaned 69 = .ok (.getfield 28, 3) := by decide +kernel
theorem d_X11_leaned_72 : decode cX11_leaned 72 = .ok (.aload_n 0, 1) := by decide +kernel
theorem d_X11_leaned_73 : decode cX11_leaned 73 = .ok (.getfield 10, 3) := by decide +kernel
theorem d_X11_leaned_76 : decode cX11_leaned 76 = .ok (.aload_n 0, 1) := by decide +kernel
theorem d_X11_leaned_77 : decode cX11_leaned 77 = .ok (.getfield 10, 3) := by decide +kernel
theorem d_X11_leaned_80 : decode cX11_leaned 80 = .ok (.getfield 77, 3) := by decide +kernel
theorem d_X11_leaned_83 : decode cX11_leaned 83 = .ok (.iload_n 3, 1) := by decide +kernel
theorem d_X11_leaned_84 : decode cX11_leaned 84 = .ok (.aaload, 1) := by decide +kernel
theorem d_X11_leaned_85 : decode cX11_leaned 85 = .ok (.invokevirtual 158, 3) := by decide +kernel
theorem d_X11_leaned_88 : decode cX11_leaned 88 = .ok (.iload_n 2, 1) := by decide +kernel
theorem d_X11_leaned_89 : decode cX11_leaned 89 = .ok (.aload_n 0, 1) := by decide +kernel
theorem d_X11_leaned_90 : decode cX11_leaned 90 = .ok (.getfield 28, 3) := by decide +kernel
theorem d_X11_leaned_93 : decode cX11_leaned 93 = .ok (.getfield 285, 3) := by decide +kernel
theorem d_X11_leaned_96 : decode cX11_leaned 96 = .ok (.ior, 1) := by decide +kernel
theorem d_X11_leaned_97 : decode cX11_leaned 97 = .ok (.istore_n 2, 1) := by decide +kernel
theorem d_X11_leaned_98 : decode cX11_leaned 98 = .ok (.iinc 3 1, 3) := by decide +kernel
theorem d_X11_leaned_101 : decode cX11_leaned 101 = .ok (.goto (-64), 3) := by decide +kernel
theorem d_X11_leaned_104 : decode cX11_leaned 104 = .ok (.aload_n 0, 1) := by decide +kernel
theorem d_X11_leaned_105 : decode cX11_leaned 105 = .ok (.getfield 28, 3) := by decide +kernel
theorem d_X11_leaned_108 : decode cX11_leaned 108 = .ok (.aload_n 0, 1) := by decide +kernel
theorem d_X11_leaned_109 : decode cX11_leaned 109 = .ok (.getfield 10, 3) := by decide +kernel
theorem d_X11_leaned_112 : decode cX11_leaned 112 = .ok (.aload_n 0, 1) := by decide +kernel
theorem d_X11_leaned_113 : decode cX11_leaned 113 = .ok (.getfield 10, 3) := by decide +kernel
theorem d_X11_leaned_116 : decode cX11_leaned 116 = .ok (.getfield 77, 3) := by decide +kernel
theorem d_X11_leaned_119 : decode cX11_leaned 119 = .ok (.iload_n 1, 1) := by decide +kernel
theorem d_X11_leaned_120 : decode cX11_leaned 120 = .ok (.aaload, 1) := by decide +kernel
theorem d_X11_leaned_121 : decode cX11_leaned 121 = .ok (.invokevirtual 158, 3) := by decide +kernel
theorem d_X11_leaned_124 : decode cX11_leaned 124 = .ok (.aload_n 0, 1) := by decide +kernel
theorem d_X11_leaned_125 : decode cX11_leaned 125 = .ok (.getfield 28, 3) := by decide +kernel
theorem d_X11_leaned_128 : decode cX11_leaned 128 = .ok (.getfield 285, 3) := by decide +kernel
theorem d_X11_leaned_131 : decode cX11_leaned 131 = .ok (.iload_n 2, 1) := by decide +kernel
theorem d_X11_leaned_132 : decode cX11_leaned 132 = .ok (.iconst (-1), 1) := by decide +kernel
theorem d_X11_leaned_133 : decode cX11_leaned 133 = .ok (.ixor, 1) := by decide +kernel
theorem d_X11_leaned_134 : decode cX11_leaned 134 = .ok (.iand, 1) := by decide +kernel
theorem d_X11_leaned_135 : decode cX11_leaned 135 = .ok (.ireturn, 1) := by decide +kernel
set_option maxHeartbeats 4000000 in
set_option maxRecDepth 100000 in
theorem t_X11_leaned_37 {X : XT_x} {G : GT_g} {z : (Mem_m × Int)} (C : Cx_ (K_X11_leaned) X G) (hR : Rx_ X G (some .int)) (x0 : Nat) (x1 : Int) (o_x1 : ok_i x1) : ∀ (n : Nat) (M : Mem_m) (x2 : Int) (x3 : Int) (o_x2 : ok_i x2) (o_x3 : ok_i x3), f_X11_leaned_37 G.2.2.2 x0 x1 n M x2 x3 = some z → V_ (K_X11_leaned) X G (Fq_ X G (Qi_ G z.1 z.2)) M 37 [(0, .ref (G.1 + x0)), (1, iv_i x1), (2, iv_i x2), (3, iv_i x3)] [] := by
  intro n
  induction n with
  | zero => intro M x2 x3 o_x2 o_x3 h; exact absurd h (by simp [f_X11_leaned_37])
  | succ n ih =>
    intro M x2 x3 o_x2 o_x3 h
    unfold f_X11_leaned_37 at h
    refine V_iload_n (j := 3) C d_X11_leaned_37 rfl rfl ?_
    refine V_aload_n (j := 0) C d_X11_leaned_38 rfl rfl ?_
    refine V_getR C ck_11 fw_X11_10 d_X11_leaned_39 h (fun v1 h => ?_)
    refine V_getI C ck_0 fw_X11_69 d_X11_leaned_42 h (fun v2 o2 h => ?_)
    refine V_icmp_ge (tgt := 104) C d_X11_leaned_45 (by decide) o_x3 o2 h (fun h => ?_) (fun h => ?_)
    · skip
      refine V_iload_n (j := 3) C d_X11_leaned_48 rfl rfl ?_
      refine V_iload_n (j := 1) C d_X11_leaned_49 rfl rfl ?_
      refine V_icmp_eq (tgt := 98) C d_X11_leaned_50 (by decide) o_x3 o_x1 h (fun h => ?_) (fun h => ?_)
      · skip
        refine V_iinc (j := 3) (lv' := [(3, iv_i (wr_i (x3 + 1))), (0, .ref (G.1 + x0)), (1, iv_i x1), (2, iv_i x2)]) C d_X11_leaned_98 rfl (by decide) rfl ?_
        refine V_goto (tgt := 37) C d_X11_leaned_101 (by decide) ?_
        refine V_lv [1, 2, 3, 0] rfl (ih M x2 (wr_i (x3 + 1)) o_x2 (ok_wr _) h)
      · skip
        refine V_aload_n (j := 0) C d_X11_leaned_53 rfl rfl ?_
        refine V_getR C ck_11 fw_X11_10 d_X11_leaned_54 h (fun v3 h => ?_)
        refine V_getR C ck_0 fw_X11_77 d_X11_leaned_57 h (fun v4 h => ?_)
        refine V_iload_n (j := 3) C d_X11_leaned_60 rfl rfl ?_
        refine V_aald (t := 0) C tc_0 d_X11_leaned_61 o_x3 h (fun v5 h => ?_)
        refine V_callVri (K' := K_X1_isCounted) (a := v5) (ci := 1) (av := []) (rest := []) yi_X1_isCounted (by decide) rfl C (yk_X1_isCounted) l1_X11_278 (by decide) d_X11_leaned_62 (fun v hv => ct_X1_isCounted v5 hv) rfl rfl (Nat.le_of_ble_eq_true rfl) h (fun v6 o6 h => ?_)
        refine V_if_eq (tgt := 98) C d_X11_leaned_65 (by decide) o6 h (fun h => ?_) (fun h => ?_)
        · skip
          refine V_iinc (j := 3) (lv' := [(3, iv_i (wr_i (x3 + 1))), (0, .ref (G.1 + x0)), (1, iv_i x1), (2, iv_i x2)]) C d_X11_leaned_98 rfl (by decide) rfl ?_
          refine V_goto (tgt := 37) C d_X11_leaned_101 (by decide) ?_
          refine V_lv [1, 2, 3, 0] rfl (ih M x2 (wr_i (x3 + 1)) o_x2 (ok_wr _) h)
        · skip
          refine V_aload_n (j := 0) C d_X11_leaned_68 rfl rfl ?_
          refine V_getR C ck_11 fw_X11_28 d_X11_leaned_69 h (fun v7 h => ?_)
          refine V_aload_n (j := 0) C d_X11_leaned_72 rfl rfl ?_
          refine V_getR C ck_11 fw_X11_10 d_X11_leaned_73 h (fun v8 h => ?_)
          refine V_aload_n (j := 0) C d_X11_leaned_76 rfl rfl ?_
          refine V_getR C ck_11 fw_X11_10 d_X11_leaned_77 h (fun v9 h => ?_)
          refine V_getR C ck_0 fw_X11_77 d_X11_leaned_80 h (fun v10 h => ?_)
          refine V_iload_n (j := 3) C d_X11_leaned_83 rfl rfl ?_
          refine V_aald (t := 0) C tc_0 d_X11_leaned_84 o_x3 h (fun v11 h => ?_)
          refine V_callVwv (K' := K_X2_cutUp) (a := v7) (ci := 2) (av := [.ref (G.1 + v8), .ref (G.1 + v11)]) (rest := []) yi_X2_cutUp (by decide) rfl C (yk_X2_cutUp) l1_X11_158 (by decide) d_X11_leaned_85 (fun v hv => ct_X2_cutUp v7 v8 v11 hv) rfl rfl (Nat.le_of_ble_eq_true rfl) h (fun M12 h => ?_)
          refine V_iload_n (j := 2) C d_X11_leaned_88 rfl rfl ?_
          refine V_aload_n (j := 0) C d_X11_leaned_89 rfl rfl ?_
          refine V_getR C ck_11 fw_X11_28 d_X11_leaned_90 h (fun v13 h => ?_)
          refine V_getI C ck_2 fw_X11_285 d_X11_leaned_93 h (fun v14 o14 h => ?_)
          refine V_ior C d_X11_leaned_96 ?_
          refine V_istore_n (lv' := [(2, iv_i (or_i x2 v14)), (0, .ref (G.1 + x0)), (1, iv_i x1), (3, iv_i x3)]) C d_X11_leaned_97 rfl (by decide) rfl ?_
          refine V_iinc (j := 3) (lv' := [(3, iv_i (wr_i (x3 + 1))), (2, iv_i (or_i x2 v14)), (0, .ref (G.1 + x0)), (1, iv_i x1)]) C d_X11_leaned_98 rfl (by decide) rfl ?_
          refine V_goto (tgt := 37) C d_X11_leaned_101 (by decide) ?_
          refine V_lv [2, 3, 1, 0] rfl (ih M12 (or_i x2 v14) (wr_i (x3 + 1)) (ok_I _) (ok_wr _) h)
    · skip
      refine V_aload_n (j := 0) C d_X11_leaned_104 rfl rfl ?_
      refine V_getR C ck_11 fw_X11_28 d_X11_leaned_105 h (fun v15 h => ?_)
      refine V_aload_n (j := 0) C d_X11_leaned_108 rfl rfl ?_
      refine V_getR C ck_11 fw_X11_10 d_X11_leaned_109 h (fun v16 h => ?_)
      refine V_aload_n (j := 0) C d_X11_leaned_112 rfl rfl ?_
      refine V_getR C ck_11 fw_X11_10 d_X11_leaned_113 h (fun v17 h => ?_)
      refine V_getR C ck_0 fw_X11_77 d_X11_leaned_116 h (fun v18 h => ?_)
      refine V_iload_n (j := 1) C d_X11_leaned_119 rfl rfl ?_
      refine V_aald (t := 0) C tc_0 d_X11_leaned_120 o_x1 h (fun v19 h => ?_)
      refine V_callVwv (K' := K_X2_cutUp) (a := v15) (ci := 2) (av := [.ref (G.1 + v16), .ref (G.1 + v19)]) (rest := []) yi_X2_cutUp (by decide) rfl C (yk_X2_cutUp) l1_X11_158 (by decide) d_X11_leaned_121 (fun v hv => ct_X2_cutUp v15 v16 v19 hv) rfl rfl (Nat.le_of_ble_eq_true rfl) h (fun M20 h => ?_)
      refine V_aload_n (j := 0) C d_X11_leaned_124 rfl rfl ?_
      refine V_getR C ck_11 fw_X11_28 d_X11_leaned_125 h (fun v21 h => ?_)
      refine V_getI C ck_2 fw_X11_285 d_X11_leaned_128 h (fun v22 o22 h => ?_)
      refine V_iload_n (j := 2) C d_X11_leaned_131 rfl rfl ?_
      refine V_iconst C d_X11_leaned_132 ?_
      refine V_ixor C d_X11_leaned_133 ?_
      refine V_iand C d_X11_leaned_134 ?_
      exact V_iret_w C hR d_X11_leaned_135 (ok_I _) h
set_option maxHeartbeats 4000000 in
set_option maxRecDepth 100000 in
theorem t_X11_leaned {X : XT_x} {G : GT_g} {M : Mem_m} {z : (Mem_m × Int)} (C : Cx_ (K_X11_leaned) X G) (hR : Rx_ X G (some .int)) (x0 : Nat) (x1 : Int) (o_x1 : ok_i x1) (h : f_X11_leaned G.2.2.2 M x0 x1 = some z) : V_ (K_X11_leaned) X G (Fq_ X G (Qi_ G z.1 z.2)) M 0 [(0, .ref (G.1 + x0)), (1, iv_i x1)] [] := by
  unfold f_X11_leaned at h
  refine V_iload_n (j := 1) C d_X11_leaned_0 rfl rfl ?_
  refine V_aload_n (j := 0) C d_X11_leaned_1 rfl rfl ?_
  refine V_getR C ck_11 fw_X11_10 d_X11_leaned_2 h (fun v1 h => ?_)
  refine V_getI C ck_0 fw_X11_69 d_X11_leaned_5 h (fun v2 o2 h => ?_)
  refine V_callSri (K' := K_X11_isIn) (av := [iv_i x1, iv_i v2]) (rest := []) ys_X11_isIn C (yk_X11_isIn) l1_X11_61 (by decide) d_X11_leaned_8 (fun v hv => ct_X11_isIn x1 v2 o_x1 o2 hv) rfl rfl (Nat.le_of_ble_eq_true rfl) h (fun v3 o3 h => ?_)
  refine V_if_ne (tgt := 16) C d_X11_leaned_11 (by decide) o3 h (fun h => ?_) (fun h => ?_)
  · skip
    refine V_iconst C d_X11_leaned_14 ?_
    exact V_iret_w C hR d_X11_leaned_15 (okc rfl) h
  · skip
    refine V_aload_n (j := 0) C d_X11_leaned_16 rfl rfl ?_
    refine V_getR C ck_11 fw_X11_10 d_X11_leaned_17 h (fun v4 h => ?_)
    refine V_getR C ck_0 fw_X11_77 d_X11_leaned_20 h (fun v5 h => ?_)
    refine V_iload_n (j := 1) C d_X11_leaned_23 rfl rfl ?_
    refine V_aald (t := 0) C tc_0 d_X11_leaned_24 o_x1 h (fun v6 h => ?_)
    refine V_callVri (K' := K_X1_isCounted) (a := v6) (ci := 1) (av := []) (rest := []) yi_X1_isCounted (by decide) rfl C (yk_X1_isCounted) l1_X11_278 (by decide) d_X11_leaned_25 (fun v hv => ct_X1_isCounted v6 hv) rfl rfl (Nat.le_of_ble_eq_true rfl) h (fun v7 o7 h => ?_)
    refine V_if_ne (tgt := 33) C d_X11_leaned_28 (by decide) o7 h (fun h => ?_) (fun h => ?_)
    · skip
      refine V_iconst C d_X11_leaned_31 ?_
      exact V_iret_w C hR d_X11_leaned_32 (okc rfl) h
    · skip
      refine V_iconst C d_X11_leaned_33 ?_
      refine V_istore_n (lv' := [(2, iv_i 0), (0, .ref (G.1 + x0)), (1, iv_i x1)]) C d_X11_leaned_34 rfl (by decide) rfl ?_
      refine V_iconst C d_X11_leaned_35 ?_
      refine V_istore_n (lv' := [(3, iv_i 0), (2, iv_i 0), (0, .ref (G.1 + x0)), (1, iv_i x1)]) C d_X11_leaned_36 rfl (by decide) rfl ?_
      refine V_lv [2, 3, 1, 0] rfl (t_X11_leaned_37 C hR x0 x1 o_x1 FU_ M 0 0 (okc rfl) (okc rfl) h)
set_option maxHeartbeats 4000000 in
set_option maxRecDepth 100000 in
theorem ct_X11_leaned {l : Launch} {G : GT_g} {M : Mem_m} (x0 : Nat) (x1 : Int) (o_x1 : ok_i x1) {z : (Mem_m × Int)} (h : f_X11_leaned G.2.2.2 M x0 x1 = some z) : MI_ l yX11_leaned K_X11_leaned (some .int) G M [.ref (G.1 + x0), iv_i x1] z.1 z.2 :=
  met_of (by decide +kernel) rfl (Nat.le_of_ble_eq_true rfl) (fun X hl C hR => by subst hl; exact t_X11_leaned C hR x0 x1 o_x1 h)
theorem d_X11_pairsOf_0 : decode cX11_pairsOf 0 = .ok (.iconst 0, 1) := by decide +kernel
theorem d_X11_pairsOf_1 : decode cX11_pairsOf 1 = .ok (.istore_n 3, 1) := by decide +kernel
theorem d_X11_pairsOf_2 : decode cX11_pairsOf 2 = .ok (.iconst 0, 1) := by decide +kernel
theorem d_X11_pairsOf_3 : decode cX11_pairsOf 3 = .ok (.istore 4, 2) := by decide +kernel
theorem d_X11_pairsOf_5 : decode cX11_pairsOf 5 = .ok (.iload 4, 2) := by decide +kernel
theorem d_X11_pairsOf_7 : decode cX11_pairsOf 7 = .ok (.aload_n 0, 1) := by decide +kernel
theorem d_X11_pairsOf_8 : decode cX11_pairsOf 8 = .ok (.getfield 10, 3) := by decide +kernel
theorem d_X11_pairsOf_11 : decode cX11_pairsOf 11 = .ok (.getfield 69, 3) := by decide +kernel
theorem d_X11_pairsOf_14 : decode cX11_pairsOf 14 = .ok (.if_icmp .ge 52, 3) := by decide +kernel
theorem d_X11_pairsOf_17 : decode cX11_pairsOf 17 = .ok (.aload_n 0, 1) := by decide +kernel
theorem d_X11_pairsOf_18 : decode cX11_pairsOf 18 = .ok (.getfield 10, 3) := by decide +kernel
theorem d_X11_pairsOf_21 : decode cX11_pairsOf 21 = .ok (.getfield 77, 3) := by decide +kernel
theorem d_X11_pairsOf_24 : decode cX11_pairsOf 24 = .ok (.iload 4, 2) := by decide +kernel
theorem d_X11_pairsOf_26 : decode cX11_pairsOf 26 = .ok (.aaload, 1) := by decide +kernel
theorem d_X11_pairsOf_27 : decode cX11_pairsOf 27 = .ok (.astore 5, 2) := by decide +kernel
theorem d_X11_pairsOf_29 : decode cX11_pairsOf 29 = .ok (.aload_n 1, 1) := by decide +kernel
theorem d_X11_pairsOf_30 : decode cX11_pairsOf 30 = .ok (.aload 5, 2) := by decide +kernel
theorem d_X11_pairsOf_32 : decode cX11_pairsOf 32 = .ok (.invokevirtual 392, 3) := by decide +kernel
theorem d_X11_pairsOf_35 : decode cX11_pairsOf 35 = .ok (.ifCond .eq 25, 3) := by decide +kernel
theorem d_X11_pairsOf_38 : decode cX11_pairsOf 38 = .ok (.iload_n 2, 1) := by decide +kernel
theorem d_X11_pairsOf_39 : decode cX11_pairsOf 39 = .ok (.ifCond .eq 18, 3) := by decide +kernel
theorem d_X11_pairsOf_42 : decode cX11_pairsOf 42 = .ok (.aload_n 1, 1) := by decide +kernel
theorem d_X11_pairsOf_43 : decode cX11_pairsOf 43 = .ok (.getfield 81, 3) := by decide +kernel
theorem d_X11_pairsOf_46 : decode cX11_pairsOf 46 = .ok (.aload 5, 2) := by decide +kernel
theorem d_X11_pairsOf_48 : decode cX11_pairsOf 48 = .ok (.getfield 81, 3) := by decide +kernel
theorem d_X11_pairsOf_51 : decode cX11_pairsOf 51 = .ok (.invokevirtual 396, 3) := by decide +kernel
theorem d_X11_pairsOf_54 : decode cX11_pairsOf 54 = .ok (.ifCond .eq 6, 3) := by decide +kernel
theorem d_X11_pairsOf_57 : decode cX11_pairsOf 57 = .ok (.iinc 3 1, 3) := by decide +kernel
theorem d_X11_pairsOf_60 : decode cX11_pairsOf 60 = .ok (.iinc 4 1, 3) := by decide +kernel
theorem d_X11_pairsOf_63 : decode cX11_pairsOf 63 = .ok (.goto (-58), 3) := by decide +kernel
theorem d_X11_pairsOf_66 : decode cX11_pairsOf 66 = .ok (.iload_n 3, 1) := by decide +kernel
theorem d_X11_pairsOf_67 : decode cX11_pairsOf 67 = .ok (.ireturn, 1) := by decide +kernel
set_option maxHeartbeats 4000000 in
set_option maxRecDepth 100000 in
theorem t_X11_pairsOf_5 {X : XT_x} {G : GT_g} {z : Int} (C : Cx_ (K_X11_pairsOf) X G) (hR : Rx_ X G (some .int)) (M : Mem_m) (x0 : Nat) (x1 : Nat) (x2 : Int) (o_x2 : ok_i x2) : ∀ (n : Nat) (x3 : Int) (x4 : Int) (o_x3 : ok_i x3) (o_x4 : ok_i x4), f_X11_pairsOf_5 G.2.2.2 M x0 x1 x2 n x3 x4 = some z → V_ (K_X11_pairsOf) X G (Fq_ X G (Qi_ G M z)) M 5 [(0, .ref (G.1 + x0)), (1, .ref (G.1 + x1)), (2, iv_i x2), (3, iv_i x3), (4, iv_i x4)] [] := by
  intro n
  induction n with
  | zero => intro x3 x4 o_x3 o_x4 h; exact absurd h (by simp [f_X11_pairsOf_5])
  | succ n ih =>
    intro x3 x4 o_x3 o_x4 h
    unfold f_X11_pairsOf_5 at h
    refine V_iload (j := 4) C d_X11_pairsOf_5 rfl ?_
    refine V_aload_n (j := 0) C d_X11_pairsOf_7 rfl rfl ?_
    refine V_getR C ck_11 fw_X11_10 d_X11_pairsOf_8 h (fun v1 h => ?_)
    refine V_getI C ck_0 fw_X11_69 d_X11_pairsOf_11 h (fun v2 o2 h => ?_)
    refine V_icmp_ge (tgt := 66) C d_X11_pairsOf_14 (by decide) o_x4 o2 h (fun h => ?_) (fun h => ?_)
    · skip
      refine V_aload_n (j := 0) C d_X11_pairsOf_17 rfl rfl ?_
      refine V_getR C ck_11 fw_X11_10 d_X11_pairsOf_18 h (fun v3 h => ?_)
      refine V_getR C ck_0 fw_X11_77 d_X11_pairsOf_21 h (fun v4 h => ?_)
      refine V_iload (j := 4) C d_X11_pairsOf_24 rfl ?_
      refine V_aald (t := 0) C tc_0 d_X11_pairsOf_26 o_x4 h (fun v5 h => ?_)
      refine V_astore (lv' := [(5, .ref (G.1 + v5)), (0, .ref (G.1 + x0)), (1, .ref (G.1 + x1)), (2, iv_i x2), (3, iv_i x3), (4, iv_i x4)]) C d_X11_pairsOf_27 (by decide) rfl ?_
      refine V_aload_n (j := 2) C d_X11_pairsOf_29 rfl rfl ?_
      refine V_aload (j := 0) C d_X11_pairsOf_30 rfl ?_
      refine V_callVri (K' := K_X1_isOtherHearing) (a := x1) (ci := 1) (av := [.ref (G.1 + v5)]) (rest := []) yi_X1_isOtherHearing (by decide) rfl C (yk_X1_isOtherHearing) l1_X11_392 (by decide) d_X11_pairsOf_32 (fun v hv => ct_X1_isOtherHearing x1 v5 hv) rfl rfl (Nat.le_of_ble_eq_true rfl) h (fun v6 o6 h => ?_)
      refine V_if_eq (tgt := 60) C d_X11_pairsOf_35 (by decide) o6 h (fun h => ?_) (fun h => ?_)
      · skip
        refine V_iinc (j := 5) (lv' := [(4, iv_i (wr_i (x4 + 1))), (5, .ref (G.1 + v5)), (0, .ref (G.1 + x0)), (1, .ref (G.1 + x1)), (2, iv_i x2), (3, iv_i x3)]) C d_X11_pairsOf_60 rfl (by decide) rfl ?_
        refine V_goto (tgt := 5) C d_X11_pairsOf_63 (by decide) ?_
        refine V_lv [2, 3, 4, 5, 0] rfl (ih x3 (wr_i (x4 + 1)) o_x3 (ok_wr _) h)
      · skip
        refine V_iload_n (j := 3) C d_X11_pairsOf_38 rfl rfl ?_
        refine V_if_eq (tgt := 57) C d_X11_pairsOf_39 (by decide) o_x2 h (fun h => ?_) (fun h => ?_)
        · skip
          refine V_iinc (j := 4) (lv' := [(3, iv_i (wr_i (x3 + 1))), (5, .ref (G.1 + v5)), (0, .ref (G.1 + x0)), (1, .ref (G.1 + x1)), (2, iv_i x2), (4, iv_i x4)]) C d_X11_pairsOf_57 rfl (by decide) rfl ?_
          refine V_iinc (j := 5) (lv' := [(4, iv_i (wr_i (x4 + 1))), (3, iv_i (wr_i (x3 + 1))), (5, .ref (G.1 + v5)), (0, .ref (G.1 + x0)), (1, .ref (G.1 + x1)), (2, iv_i x2)]) C d_X11_pairsOf_60 rfl (by decide) rfl ?_
          refine V_goto (tgt := 5) C d_X11_pairsOf_63 (by decide) ?_
          refine V_lv [3, 4, 5, 1, 0] rfl (ih (wr_i (x3 + 1)) (wr_i (x4 + 1)) (ok_wr _) (ok_wr _) h)
        · skip
          refine V_aload_n (j := 2) C d_X11_pairsOf_42 rfl rfl ?_
          refine V_getR C ck_1 fw_X11_81 d_X11_pairsOf_43 h (fun v7 h => ?_)
          refine V_aload (j := 0) C d_X11_pairsOf_46 rfl ?_
          refine V_getR C ck_1 fw_X11_81 d_X11_pairsOf_48 h (fun v8 h => ?_)
          refine V_callVri (K' := K_X10_isLike) (a := v7) (ci := 10) (av := [.ref (G.1 + v8)]) (rest := []) yi_X10_isLike (by decide) rfl C (yk_X10_isLike) l1_X11_396 (by decide) d_X11_pairsOf_51 (fun v hv => ct_X10_isLike v7 v8 hv) rfl rfl (Nat.le_of_ble_eq_true rfl) h (fun v9 o9 h => ?_)
          refine V_if_eq (tgt := 60) C d_X11_pairsOf_54 (by decide) o9 h (fun h => ?_) (fun h => ?_)
          · skip
            refine V_iinc (j := 5) (lv' := [(4, iv_i (wr_i (x4 + 1))), (5, .ref (G.1 + v5)), (0, .ref (G.1 + x0)), (1, .ref (G.1 + x1)), (2, iv_i x2), (3, iv_i x3)]) C d_X11_pairsOf_60 rfl (by decide) rfl ?_
            refine V_goto (tgt := 5) C d_X11_pairsOf_63 (by decide) ?_
            refine V_lv [2, 3, 4, 5, 0] rfl (ih x3 (wr_i (x4 + 1)) o_x3 (ok_wr _) h)
          · skip
            refine V_iinc (j := 4) (lv' := [(3, iv_i (wr_i (x3 + 1))), (5, .ref (G.1 + v5)), (0, .ref (G.1 + x0)), (1, .ref (G.1 + x1)), (2, iv_i x2), (4, iv_i x4)]) C d_X11_pairsOf_57 rfl (by decide) rfl ?_
            refine V_iinc (j := 5) (lv' := [(4, iv_i (wr_i (x4 + 1))), (3, iv_i (wr_i (x3 + 1))), (5, .ref (G.1 + v5)), (0, .ref (G.1 + x0)), (1, .ref (G.1 + x1)), (2, iv_i x2)]) C d_X11_pairsOf_60 rfl (by decide) rfl ?_
            refine V_goto (tgt := 5) C d_X11_pairsOf_63 (by decide) ?_
            refine V_lv [3, 4, 5, 1, 0] rfl (ih (wr_i (x3 + 1)) (wr_i (x4 + 1)) (ok_wr _) (ok_wr _) h)
    · skip
      refine V_iload_n (j := 3) C d_X11_pairsOf_66 rfl rfl ?_
      exact V_iret_r C hR d_X11_pairsOf_67 o_x3 h
set_option maxHeartbeats 4000000 in
set_option maxRecDepth 100000 in
theorem t_X11_pairsOf {X : XT_x} {G : GT_g} {M : Mem_m} {z : Int} (C : Cx_ (K_X11_pairsOf) X G) (hR : Rx_ X G (some .int)) (x0 : Nat) (x1 : Nat) (x2 : Int) (o_x2 : ok_i x2) (h : f_X11_pairsOf G.2.2.2 M x0 x1 x2 = some z) : V_ (K_X11_pairsOf) X G (Fq_ X G (Qi_ G M z)) M 0 [(0, .ref (G.1 + x0)), (1, .ref (G.1 + x1)), (2, iv_i x2)] [] := by
  unfold f_X11_pairsOf at h
  refine V_iconst C d_X11_pairsOf_0 ?_
  refine V_istore_n (lv' := [(3, iv_i 0), (0, .ref (G.1 + x0)), (1, .ref (G.1 + x1)), (2, iv_i x2)]) C d_X11_pairsOf_1 rfl (by decide) rfl ?_
  refine V_iconst C d_X11_pairsOf_2 ?_
  refine V_istore (lv' := [(4, iv_i 0), (3, iv_i 0), (0, .ref (G.1 + x0)), (1, .ref (G.1 + x1)), (2, iv_i x2)]) C d_X11_pairsOf_3 (by decide) rfl ?_
  refine V_lv [2, 3, 4, 1, 0] rfl (t_X11_pairsOf_5 C hR M x0 x1 x2 o_x2 FU_ 0 0 (okc rfl) (okc rfl) h)
set_option maxHeartbeats 4000000 in
set_option maxRecDepth 100000 in
theorem ct_X11_pairsOf {l : Launch} {G : GT_g} {M : Mem_m} (x0 : Nat) (x1 : Nat) (x2 : Int) (o_x2 : ok_i x2) {z : Int} (h : f_X11_pairsOf G.2.2.2 M x0 x1 x2 = some z) : MI_ l yX11_pairsOf K_X11_pairsOf (some .int) G M [.ref (G.1 + x0), .ref (G.1 + x1), iv_i x2] M z :=
  met_of (by decide +kernel) rfl (Nat.le_of_ble_eq_true rfl) (fun X hl C hR => by subst hl; exact t_X11_pairsOf C hR x0 x1 x2 o_x2 h)
theorem d_X11_weight_0 : decode cX11_weight 0 = .ok (.iload_n 1, 1) := by decide +kernel
theorem d_X11_weight_1 : decode cX11_weight 1 = .ok (.iconst 4, 1) := by decide +kernel
theorem d_X11_weight_2 : decode cX11_weight 2 = .ok (.invokestatic 61, 3) := by decide +kernel
theorem d_X11_weight_5 : decode cX11_weight 5 = .ok (.ifCond .eq 11, 3) := by decide +kernel
theorem d_X11_weight_8 : decode cX11_weight 8 = .ok (.iload_n 2, 1) := by decide +kernel
theorem d_X11_weight_9 : decode cX11_weight 9 = .ok (.iconst 2, 1) := by decide +kernel
theorem d_X11_weight_10 : decode cX11_weight 10 = .ok (.invokestatic 61, 3) := by decide +kernel
theorem d_X11_weight_13 : decode cX11_weight 13 = .ok (.ifCond .ne 5, 3) := by decide +kernel
theorem d_X11_weight_16 : decode cX11_weight 16 = .ok (.iconst (-1), 1) := by decide +kernel
theorem d_X11_weight_17 : decode cX11_weight 17 = .ok (.ireturn, 1) := by decide +kernel
theorem d_X11_weight_18 : decode cX11_weight 18 = .ok (.iconst 0, 1) := by decide +kernel
theorem d_X11_weight_19 : decode cX11_weight 19 = .ok (.istore_n 3, 1) := by decide +kernel
theorem d_X11_weight_20 : decode cX11_weight 20 = .ok (.iconst 0, 1) := by decide +kernel
theorem d_X11_weight_21 : decode cX11_weight 21 = .ok (.istore 4, 2) := by decide +kernel
theorem d_X11_weight_23 : decode cX11_weight 23 = .ok (.iload 4, 2) := by decide +kernel
theorem d_X11_weight_25 : decode cX11_weight 25 = .ok (.aload_n 0, 1) := by decide +kernel
theorem d_X11_weight_26 : decode cX11_weight 26 = .ok (.getfield 10, 3) := by decide +kernel
theorem d_X11_weight_29 : decode cX11_weight 29 = .ok (.getfield 69, 3) := by decide +kernel
theorem d_X11_weight_32 : decode cX11_weight 32 = .ok (.if_icmp .ge 52, 3) := by decide +kernel
theorem d_X11_weight_35 : decode cX11_weight 35 = .ok (.aload_n 0, 1) := by decide +kernel
theorem d_X11_weight_36 : decode cX11_weight 36 = .ok (.getfield 10, 3) := by decide +kernel
theorem d_X11_weight_39 : decode cX11_weight 39 = .ok (.getfield 77, 3) := by decide +kernel
theorem d_X11_weight_42 : decode cX11_weight 42 = .ok (.iload 4, 2) := by decide +kernel
theorem d_X11_weight_44 : decode cX11_weight 44 = .ok (.aaload, 1) := by decide +kernel
theorem d_X11_weight_45 : decode cX11_weight 45 = .ok (.getfield 99, 3) := by decide +kernel
theorem d_X11_weight_48 : decode cX11_weight 48 = .ok (.iload_n 1, 1) := by decide +kernel
theorem d_X11_weight_49 : decode cX11_weight 49 = .ok (.if_icmp .ne 29, 3) := by decide +kernel
theorem d_X11_weight_52 : decode cX11_weight 52 = .ok (.iload_n 3, 1) := by decide +kernel
theorem d_X11_weight_53 : decode cX11_weight 53 = .ok (.aload_n 0, 1) := by decide +kernel
theorem d_X11_weight_54 : decode cX11_weight 54 = .ok (.aload_n 0, 1) := by decide +kernel
theorem d_X11_weight_55 : decode cX11_weight 55 = .ok (.getfield 10, 3) := by decide +kernel
theorem d_X11_weight_58 : decode cX11_weight 58 = .ok (.getfield 77, 3) := by decide +kernel
theorem d_X11_weight_61 : decode cX11_weight 61 = .ok (.iload 4, 2) := by decide +kernel
theorem d_X11_weight_63 : decode cX11_weight 63 = .ok (.aaload, 1) := by decide +kernel
theorem d_X11_weight_64 : decode cX11_weight 64 = .ok (.iload_n 2, 1) := by decide +kernel
theorem d_X11_weight_65 : decode cX11_weight 65 = .ok (.ifCond .ne 7, 3) := by decide +kernel
theorem d_X11_weight_68 : decode cX11_weight 68 = .ok (.iconst 1, 1) := by decide +kernel
theorem d_X11_weight_69 : decode cX11_weight 69 = .ok (.goto 4, 3) := by decide +kernel
theorem d_X11_weight_72 : decode cX11_weight 72 = .ok (.iconst 0, 1) := by decide +kernel
theorem d_X11_weight_73 : decode cX11_weight 73 = .ok (.invokevirtual 317, 3) := by decide +kernel
theorem d_X11_weight_76 : decode cX11_weight 76 = .ok (.iadd, 1) := by decide +kernel
theorem d_X11_weight_77 : decode cX11_weight 77 = .ok (.istore_n 3, 1) := by decide +kernel
theorem d_X11_weight_78 : decode cX11_weight 78 = .ok (.iinc 4 1, 3) := by decide +kernel
theorem d_X11_weight_81 : decode cX11_weight 81 = .ok (.goto (-58), 3) := by decide +kernel
theorem d_X11_weight_84 : decode cX11_weight 84 = .ok (.iload_n 3, 1) := by decide +kernel
theorem d_X11_weight_85 : decode cX11_weight 85 = .ok (.ireturn, 1) := by decide +kernel
set_option maxHeartbeats 4000000 in
set_option maxRecDepth 100000 in
theorem t_X11_weight_73 {X : XT_x} {G : GT_g} {z : Int} (C : Cx_ (K_X11_weight) X G) (hR : Rx_ X G (some .int)) (M : Mem_m) (x0 : Nat) (x1 : Int) (x2 : Int) (x4 : Int) (s0 : Int) (s1 : Nat) (s2 : Nat) (s3 : Int) (o_x1 : ok_i x1) (o_x2 : ok_i x2) (o_x4 : ok_i x4) (o_s0 : ok_i s0) (o_s3 : ok_i s3) (k_23 : Int → Int → Option Int) (hk_23 : ∀ (x3 : Int) (x4 : Int) (o_x3 : ok_i x3) (o_x4 : ok_i x4), k_23 x3 x4 = some z → V_ (K_X11_weight) X G (Fq_ X G (Qi_ G M z)) M 23 [(0, .ref (G.1 + x0)), (1, iv_i x1), (2, iv_i x2), (3, iv_i x3), (4, iv_i x4)] []) (h : f_X11_weight_73 G.2.2.2 k_23 M x0 x1 x2 x4 s0 s1 s2 s3 = some z) : V_ (K_X11_weight) X G (Fq_ X G (Qi_ G M z)) M 73 [(0, .ref (G.1 + x0)), (1, iv_i x1), (2, iv_i x2), (4, iv_i x4)] [iv_i s0, .ref (G.1 + s1), .ref (G.1 + s2), iv_i s3] := by
  unfold f_X11_weight_73 at h
  refine V_callVri (K' := K_X11_pairsOf) (a := s2) (ci := 11) (av := [.ref (G.1 + s1), iv_i s0]) (rest := [iv_i s3]) yi_X11_pairsOf (by decide) rfl C (yk_X11_pairsOf) l1_X11_317 (by decide) d_X11_weight_73 (fun v hv => ct_X11_pairsOf s2 s1 s0 o_s0 hv) rfl rfl (Nat.le_of_ble_eq_true rfl) h (fun v1 o1 h => ?_)
  refine V_iadd C d_X11_weight_76 ?_
  refine V_istore_n (lv' := [(3, iv_i (wr_i (s3 + v1))), (0, .ref (G.1 + x0)), (1, iv_i x1), (2, iv_i x2), (4, iv_i x4)]) C d_X11_weight_77 rfl (by decide) rfl ?_
  refine V_iinc (j := 4) (lv' := [(4, iv_i (wr_i (x4 + 1))), (3, iv_i (wr_i (s3 + v1))), (0, .ref (G.1 + x0)), (1, iv_i x1), (2, iv_i x2)]) C d_X11_weight_78 rfl (by decide) rfl ?_
  refine V_goto (tgt := 23) C d_X11_weight_81 (by decide) ?_
  refine V_lv [2, 3, 4, 1, 0] rfl (hk_23 (wr_i (s3 + v1)) (wr_i (x4 + 1)) (ok_wr _) (ok_wr _) h)
set_option maxHeartbeats 4000000 in
set_option maxRecDepth 100000 in
theorem t_X11_weight_23 {X : XT_x} {G : GT_g} {z : Int} (C : Cx_ (K_X11_weight) X G) (hR : Rx_ X G (some .int)) (M : Mem_m) (x0 : Nat) (x1 : Int) (x2 : Int) (o_x1 : ok_i x1) (o_x2 : ok_i x2) : ∀ (n : Nat) (x3 : Int) (x4 : Int) (o_x3 : ok_i x3) (o_x4 : ok_i x4), f_X11_weight_23 G.2.2.2 M x0 x1 x2 n x3 x4 = some z → V_ (K_X11_weight) X G (Fq_ X G (Qi_ G M z)) M 23 [(0, .ref (G.1 + x0)), (1, iv_i x1), (2, iv_i x2), (3, iv_i x3), (4, iv_i x4)] [] := by
  intro n
  induction n with
  | zero => intro x3 x4 o_x3 o_x4 h; exact absurd h (by simp [f_X11_weight_23])
  | succ n ih =>
    intro x3 x4 o_x3 o_x4 h
    unfold f_X11_weight_23 at h
    refine V_iload (j := 4) C d_X11_weight_23 rfl ?_
    refine V_aload_n (j := 0) C d_X11_weight_25 rfl rfl ?_
    refine V_getR C ck_11 fw_X11_10 d_X11_weight_26 h (fun v1 h => ?_)
    refine V_getI C ck_0 fw_X11_69 d_X11_weight_29 h (fun v2 o2 h => ?_)
    refine V_icmp_ge (tgt := 84) C d_X11_weight_32 (by decide) o_x4 o2 h (fun h => ?_) (fun h => ?_)
    · skip
      refine V_aload_n (j := 0) C d_X11_weight_35 rfl rfl ?_
      refine V_getR C ck_11 fw_X11_10 d_X11_weight_36 h (fun v3 h => ?_)
      refine V_getR C ck_0 fw_X11_77 d_X11_weight_39 h (fun v4 h => ?_)
      refine V_iload (j := 4) C d_X11_weight_42 rfl ?_
      refine V_aald (t := 0) C tc_0 d_X11_weight_44 o_x4 h (fun v5 h => ?_)
      refine V_getI C ck_1 fw_X11_99 d_X11_weight_45 h (fun v6 o6 h => ?_)
      refine V_iload_n (j := 1) C d_X11_weight_48 rfl rfl ?_
      refine V_icmp_ne (tgt := 78) C d_X11_weight_49 (by decide) o6 o_x1 h (fun h => ?_) (fun h => ?_)
      · skip
        refine V_iload_n (j := 3) C d_X11_weight_52 rfl rfl ?_
        refine V_aload_n (j := 0) C d_X11_weight_53 rfl rfl ?_
        refine V_aload_n (j := 0) C d_X11_weight_54 rfl rfl ?_
        refine V_getR C ck_11 fw_X11_10 d_X11_weight_55 h (fun v7 h => ?_)
        refine V_getR C ck_0 fw_X11_77 d_X11_weight_58 h (fun v8 h => ?_)
        refine V_iload (j := 4) C d_X11_weight_61 rfl ?_
        refine V_aald (t := 0) C tc_0 d_X11_weight_63 o_x4 h (fun v9 h => ?_)
        refine V_iload_n (j := 2) C d_X11_weight_64 rfl rfl ?_
        refine V_if_ne (tgt := 72) C d_X11_weight_65 (by decide) o_x2 h (fun h => ?_) (fun h => ?_)
        · skip
          refine V_iconst C d_X11_weight_68 ?_
          refine V_goto (tgt := 73) C d_X11_weight_69 (by decide) ?_
          refine V_lv [0, 1, 2, 4] rfl (t_X11_weight_73 C hR M x0 x1 x2 x4 1 v9 x0 x3 o_x1 o_x2 o_x4 (okc rfl) o_x3 (fun x3 x4 => f_X11_weight_23 G.2.2.2 M x0 x1 x2 n x3 x4) (fun x3 x4 o_x3 o_x4 h9 => ih x3 x4 o_x3 o_x4 h9) h)
        · skip
          refine V_iconst C d_X11_weight_72 ?_
          refine V_lv [0, 1, 2, 4] rfl (t_X11_weight_73 C hR M x0 x1 x2 x4 0 v9 x0 x3 o_x1 o_x2 o_x4 (okc rfl) o_x3 (fun x3 x4 => f_X11_weight_23 G.2.2.2 M x0 x1 x2 n x3 x4) (fun x3 x4 o_x3 o_x4 h9 => ih x3 x4 o_x3 o_x4 h9) h)
      · skip
        refine V_iinc (j := 4) (lv' := [(4, iv_i (wr_i (x4 + 1))), (0, .ref (G.1 + x0)), (1, iv_i x1), (2, iv_i x2), (3, iv_i x3)]) C d_X11_weight_78 rfl (by decide) rfl ?_
        refine V_goto (tgt := 23) C d_X11_weight_81 (by decide) ?_
        refine V_lv [1, 2, 3, 4, 0] rfl (ih x3 (wr_i (x4 + 1)) o_x3 (ok_wr _) h)
    · skip
      refine V_iload_n (j := 3) C d_X11_weight_84 rfl rfl ?_
      exact V_iret_r C hR d_X11_weight_85 o_x3 h
set_option maxHeartbeats 4000000 in
set_option maxRecDepth 100000 in
theorem t_X11_weight {X : XT_x} {G : GT_g} {M : Mem_m} {z : Int} (C : Cx_ (K_X11_weight) X G) (hR : Rx_ X G (some .int)) (x0 : Nat) (x1 : Int) (x2 : Int) (o_x1 : ok_i x1) (o_x2 : ok_i x2) (h : f_X11_weight G.2.2.2 M x0 x1 x2 = some z) : V_ (K_X11_weight) X G (Fq_ X G (Qi_ G M z)) M 0 [(0, .ref (G.1 + x0)), (1, iv_i x1), (2, iv_i x2)] [] := by
  unfold f_X11_weight at h
  refine V_iload_n (j := 1) C d_X11_weight_0 rfl rfl ?_
  refine V_iconst C d_X11_weight_1 ?_
  refine V_callSri (K' := K_X11_isIn) (av := [iv_i x1, iv_i 4]) (rest := []) ys_X11_isIn C (yk_X11_isIn) l1_X11_61 (by decide) d_X11_weight_2 (fun v hv => ct_X11_isIn x1 4 o_x1 (okc rfl) hv) rfl rfl (Nat.le_of_ble_eq_true rfl) h (fun v1 o1 h => ?_)
  refine V_if_eq (tgt := 16) C d_X11_weight_5 (by decide) o1 h (fun h => ?_) (fun h => ?_)
  · skip
    refine V_iconst C d_X11_weight_16 ?_
    exact V_iret_r C hR d_X11_weight_17 (okc rfl) h
  · skip
    refine V_iload_n (j := 2) C d_X11_weight_8 rfl rfl ?_
    refine V_iconst C d_X11_weight_9 ?_
    refine V_callSri (K' := K_X11_isIn) (av := [iv_i x2, iv_i 2]) (rest := []) ys_X11_isIn C (yk_X11_isIn) l1_X11_61 (by decide) d_X11_weight_10 (fun v hv => ct_X11_isIn x2 2 o_x2 (okc rfl) hv) rfl rfl (Nat.le_of_ble_eq_true rfl) h (fun v2 o2 h => ?_)
    refine V_if_ne (tgt := 18) C d_X11_weight_13 (by decide) o2 h (fun h => ?_) (fun h => ?_)
    · skip
      refine V_iconst C d_X11_weight_16 ?_
      exact V_iret_r C hR d_X11_weight_17 (okc rfl) h
    · skip
      refine V_iconst C d_X11_weight_18 ?_
      refine V_istore_n (lv' := [(3, iv_i 0), (0, .ref (G.1 + x0)), (1, iv_i x1), (2, iv_i x2)]) C d_X11_weight_19 rfl (by decide) rfl ?_
      refine V_iconst C d_X11_weight_20 ?_
      refine V_istore (lv' := [(4, iv_i 0), (3, iv_i 0), (0, .ref (G.1 + x0)), (1, iv_i x1), (2, iv_i x2)]) C d_X11_weight_21 (by decide) rfl ?_
      refine V_lv [2, 3, 4, 1, 0] rfl (t_X11_weight_23 C hR M x0 x1 x2 o_x1 o_x2 FU_ 0 0 (okc rfl) (okc rfl) h)
set_option maxHeartbeats 4000000 in
set_option maxRecDepth 100000 in
theorem ct_X11_weight {l : Launch} {G : GT_g} {M : Mem_m} (x0 : Nat) (x1 : Int) (x2 : Int) (o_x1 : ok_i x1) (o_x2 : ok_i x2) {z : Int} (h : f_X11_weight G.2.2.2 M x0 x1 x2 = some z) : MI_ l yX11_weight K_X11_weight (some .int) G M [.ref (G.1 + x0), iv_i x1, iv_i x2] M z :=
  met_of (by decide +kernel) rfl (Nat.le_of_ble_eq_true rfl) (fun X hl C hR => by subst hl; exact t_X11_weight C hR x0 x1 x2 o_x1 o_x2 h)
theorem d_X11_image_0 : decode cX11_image 0 = .ok (.aload_n 0, 1) := by decide +kernel
theorem d_X11_image_1 : decode cX11_image 1 = .ok (.getfield 16, 3) := by decide +kernel
theorem d_X11_image_4 : decode cX11_image 4 = .ok (.aload_n 0, 1) := by decide +kernel
theorem d_X11_image_5 : decode cX11_image 5 = .ok (.getfield 10, 3) := by decide +kernel
theorem d_X11_image_8 : decode cX11_image 8 = .ok (.invokevirtual 321, 3) := by decide +kernel
theorem d_X11_image_11 : decode cX11_image 11 = .ok (.aload_n 0, 1) := by decide +kernel
theorem d_X11_image_12 : decode cX11_image 12 = .ok (.iconst 1, 1) := by decide +kernel
theorem d_X11_image_13 : decode cX11_image 13 = .ok (.putfield 323, 3) := by decide +kernel
theorem d_X11_image_16 : decode cX11_image 16 = .ok (.aload_n 0, 1) := by decide +kernel
theorem d_X11_image_17 : decode cX11_image 17 = .ok (.getfield 10, 3) := by decide +kernel
theorem d_X11_image_20 : decode cX11_image 20 = .ok (.getfield 69, 3) := by decide +kernel
theorem d_X11_image_23 : decode cX11_image 23 = .ok (.ireturn, 1) := by decide +kernel
set_option maxHeartbeats 4000000 in
set_option maxRecDepth 100000 in
theorem t_X11_image {X : XT_x} {G : GT_g} {M : Mem_m} {z : (Mem_m × Int)} (C : Cx_ (K_X11_image) X G) (hR : Rx_ X G (some .int)) (x0 : Nat)  (h : f_X11_image G.2.2.2 M x0 = some z) : V_ (K_X11_image) X G (Fq_ X G (Qi_ G z.1 z.2)) M 0 [(0, .ref (G.1 + x0))] [] := by
  unfold f_X11_image at h
  refine V_aload_n (j := 0) C d_X11_image_0 rfl rfl ?_
  refine V_getR C ck_11 fw_X11_16 d_X11_image_1 h (fun v1 h => ?_)
  refine V_aload_n (j := 0) C d_X11_image_4 rfl rfl ?_
  refine V_getR C ck_11 fw_X11_10 d_X11_image_5 h (fun v2 h => ?_)
  refine V_callVwv (K' := K_X0_take) (a := v1) (ci := 0) (av := [.ref (G.1 + v2)]) (rest := []) yi_X0_take (by decide) rfl C (yk_X0_take) l1_X11_321 (by decide) d_X11_image_8 (fun v hv => ct_X0_take v1 v2 hv) rfl rfl (Nat.le_of_ble_eq_true rfl) h (fun M3 h => ?_)
  refine V_aload_n (j := 0) C d_X11_image_11 rfl rfl ?_
  refine V_iconst C d_X11_image_12 ?_
  refine V_putZ C ck_11 fw_X11_323 fp_11_2 d_X11_image_13 (okc rfl) h (fun M4 h => ?_)
  refine V_aload_n (j := 0) C d_X11_image_16 rfl rfl ?_
  refine V_getR C ck_11 fw_X11_10 d_X11_image_17 h (fun v5 h => ?_)
  refine V_getI C ck_0 fw_X11_69 d_X11_image_20 h (fun v6 o6 h => ?_)
  exact V_iret_w C hR d_X11_image_23 o6 h
set_option maxHeartbeats 4000000 in
set_option maxRecDepth 100000 in
theorem ct_X11_image {l : Launch} {G : GT_g} {M : Mem_m} (x0 : Nat)  {z : (Mem_m × Int)} (h : f_X11_image G.2.2.2 M x0 = some z) : MI_ l yX11_image K_X11_image (some .int) G M [.ref (G.1 + x0)] z.1 z.2 :=
  met_of (by decide +kernel) rfl (Nat.le_of_ble_eq_true rfl) (fun X hl C hR => by subst hl; exact t_X11_image C hR x0  h)
theorem d_X11_restore_0 : decode cX11_restore 0 = .ok (.aload_n 0, 1) := by decide +kernel
theorem d_X11_restore_1 : decode cX11_restore 1 = .ok (.getfield 323, 3) := by decide +kernel
theorem d_X11_restore_4 : decode cX11_restore 4 = .ok (.ifCond .ne 6, 3) := by decide +kernel
theorem d_X11_restore_7 : decode cX11_restore 7 = .ok (.bipush (-3), 2) := by decide +kernel
theorem d_X11_restore_9 : decode cX11_restore 9 = .ok (.ireturn, 1) := by decide +kernel
theorem d_X11_restore_10 : decode cX11_restore 10 = .ok (.aload_n 0, 1) := by decide +kernel
theorem d_X11_restore_11 : decode cX11_restore 11 = .ok (.getfield 10, 3) := by decide +kernel
theorem d_X11_restore_14 : decode cX11_restore 14 = .ok (.aload_n 0, 1) := by decide +kernel
theorem d_X11_restore_15 : decode cX11_restore 15 = .ok (.getfield 16, 3) := by decide +kernel
theorem d_X11_restore_18 : decode cX11_restore 18 = .ok (.invokevirtual 321, 3) := by decide +kernel
theorem d_X11_restore_21 : decode cX11_restore 21 = .ok (.aload_n 0, 1) := by decide +kernel
theorem d_X11_restore_22 : decode cX11_restore 22 = .ok (.getfield 10, 3) := by decide +kernel
theorem d_X11_restore_25 : decode cX11_restore 25 = .ok (.getfield 69, 3) := by decide +kernel
theorem d_X11_restore_28 : decode cX11_restore 28 = .ok (.ireturn, 1) := by decide +kernel
set_option maxHeartbeats 4000000 in
set_option maxRecDepth 100000 in
theorem t_X11_restore {X : XT_x} {G : GT_g} {M : Mem_m} {z : (Mem_m × Int)} (C : Cx_ (K_X11_restore) X G) (hR : Rx_ X G (some .int)) (x0 : Nat)  (h : f_X11_restore G.2.2.2 M x0 = some z) : V_ (K_X11_restore) X G (Fq_ X G (Qi_ G z.1 z.2)) M 0 [(0, .ref (G.1 + x0))] [] := by
  unfold f_X11_restore at h
  refine V_aload_n (j := 0) C d_X11_restore_0 rfl rfl ?_
  refine V_getI C ck_11 fw_X11_323 d_X11_restore_1 h (fun v1 o1 h => ?_)
  refine V_if_ne (tgt := 10) C d_X11_restore_4 (by decide) o1 h (fun h => ?_) (fun h => ?_)
  · skip
    refine V_bipush (v := (-3)) C d_X11_restore_7 rfl ?_
    exact V_iret_w C hR d_X11_restore_9 (okc rfl) h
  · skip
    refine V_aload_n (j := 0) C d_X11_restore_10 rfl rfl ?_
    refine V_getR C ck_11 fw_X11_10 d_X11_restore_11 h (fun v2 h => ?_)
    refine V_aload_n (j := 0) C d_X11_restore_14 rfl rfl ?_
    refine V_getR C ck_11 fw_X11_16 d_X11_restore_15 h (fun v3 h => ?_)
    refine V_callVwv (K' := K_X0_take) (a := v2) (ci := 0) (av := [.ref (G.1 + v3)]) (rest := []) yi_X0_take (by decide) rfl C (yk_X0_take) l1_X11_321 (by decide) d_X11_restore_18 (fun v hv => ct_X0_take v2 v3 hv) rfl rfl (Nat.le_of_ble_eq_true rfl) h (fun M4 h => ?_)
    refine V_aload_n (j := 0) C d_X11_restore_21 rfl rfl ?_
    refine V_getR C ck_11 fw_X11_10 d_X11_restore_22 h (fun v5 h => ?_)
    refine V_getI C ck_0 fw_X11_69 d_X11_restore_25 h (fun v6 o6 h => ?_)
    exact V_iret_w C hR d_X11_restore_28 o6 h
set_option maxHeartbeats 4000000 in
set_option maxRecDepth 100000 in
theorem ct_X11_restore {l : Launch} {G : GT_g} {M : Mem_m} (x0 : Nat)  {z : (Mem_m × Int)} (h : f_X11_restore G.2.2.2 M x0 = some z) : MI_ l yX11_restore K_X11_restore (some .int) G M [.ref (G.1 + x0)] z.1 z.2 :=
  met_of (by decide +kernel) rfl (Nat.le_of_ble_eq_true rfl) (fun X hl C hR => by subst hl; exact t_X11_restore C hR x0  h)
theorem d_X11_cardsWithSingles_0 : decode cX11_cardsWithSingles 0 = .ok (.iconst 0, 1) := by decide +kernel
theorem d_X11_cardsWithSingles_1 : decode cX11_cardsWithSingles 1 = .ok (.istore_n 1, 1) := by decide +kernel
theorem d_X11_cardsWithSingles_2 : decode cX11_cardsWithSingles 2 = .ok (.iconst 0, 1) := by decide +kernel
theorem d_X11_cardsWithSingles_3 : decode cX11_cardsWithSingles 3 = .ok (.istore_n 2, 1) := by decide +kernel
theorem d_X11_cardsWithSingles_4 : decode cX11_cardsWithSingles 4 = .ok (.iload_n 2, 1) := by decide +kernel
theorem d_X11_cardsWithSingles_5 : decode cX11_cardsWithSingles 5 = .ok (.aload_n 0, 1) := by decide +kernel
theorem d_X11_cardsWithSingles_6 : decode cX11_cardsWithSingles 6 = .ok (.getfield 10, 3) := by decide +kernel
theorem d_X11_cardsWithSingles_9 : decode cX11_cardsWithSingles 9 = .ok (.getfield 69, 3) := by decide +kernel
theorem d_X11_cardsWithSingles_12 : decode cX11_cardsWithSingles 12 = .ok (.if_icmp .ge 57, 3) := by decide +kernel
theorem d_X11_cardsWithSingles_15 : decode cX11_cardsWithSingles 15 = .ok (.aload_n 0, 1) := by decide +kernel
theorem d_X11_cardsWithSingles_16 : decode cX11_cardsWithSingles 16 = .ok (.getfield 10, 3) := by decide +kernel
theorem d_X11_cardsWithSingles_19 : decode cX11_cardsWithSingles 19 = .ok (.getfield 77, 3) := by decide +kernel
theorem d_X11_cardsWithSingles_22 : decode cX11_cardsWithSingles 22 = .ok (.iload_n 2, 1) := by decide +kernel
theorem d_X11_cardsWithSingles_23 : decode cX11_cardsWithSingles 23 = .ok (.aaload, 1) := by decide +kernel
theorem d_X11_cardsWithSingles_24 : decode cX11_cardsWithSingles 24 = .ok (.invokevirtual 278, 3) := by decide +kernel
theorem d_X11_cardsWithSingles_27 : decode cX11_cardsWithSingles 27 = .ok (.ifCond .eq 36, 3) := by decide +kernel
theorem d_X11_cardsWithSingles_30 : decode cX11_cardsWithSingles 30 = .ok (.aload_n 0, 1) := by decide +kernel
theorem d_X11_cardsWithSingles_31 : decode cX11_cardsWithSingles 31 = .ok (.getfield 28, 3) := by decide +kernel
theorem d_X11_cardsWithSingles_34 : decode cX11_cardsWithSingles 34 = .ok (.aload_n 0, 1) := by decide +kernel
theorem d_X11_cardsWithSingles_35 : decode cX11_cardsWithSingles 35 = .ok (.getfield 10, 3) := by decide +kernel
theorem d_X11_cardsWithSingles_38 : decode cX11_cardsWithSingles 38 = .ok (.aload_n 0, 1) := by decide +kernel
theorem d_X11_cardsWithSingles_39 : decode cX11_cardsWithSingles 39 = .ok (.getfield 10, 3) := by decide +kernel
theorem d_X11_cardsWithSingles_42 : decode cX11_cardsWithSingles 42 = .ok (.getfield 77, 3) := by decide +kernel
theorem d_X11_cardsWithSingles_45 : decode cX11_cardsWithSingles 45 = .ok (.iload_n 2, 1) := by decide +kernel
theorem d_X11_cardsWithSingles_46 : decode cX11_cardsWithSingles 46 = .ok (.aaload, 1) := by decide +kernel
theorem d_X11_cardsWithSingles_47 : decode cX11_cardsWithSingles 47 = .ok (.invokevirtual 158, 3) := by decide +kernel
theorem d_X11_cardsWithSingles_50 : decode cX11_cardsWithSingles 50 = .ok (.aload_n 0, 1) := by decide +kernel
theorem d_X11_cardsWithSingles_51 : decode cX11_cardsWithSingles 51 = .ok (.getfield 28, 3) := by decide +kernel
theorem d_X11_cardsWithSingles_54 : decode cX11_cardsWithSingles 54 = .ok (.getfield 282, 3) := by decide +kernel
theorem d_X11_cardsWithSingles_57 : decode cX11_cardsWithSingles 57 = .ok (.ifCond .le 6, 3) := by decide +kernel
theorem d_X11_cardsWithSingles_60 : decode cX11_cardsWithSingles 60 = .ok (.iinc 1 1, 3) := by decide +kernel
theorem d_X11_cardsWithSingles_63 : decode cX11_cardsWithSingles 63 = .ok (.iinc 2 1, 3) := by decide +kernel
theorem d_X11_cardsWithSingles_66 : decode cX11_cardsWithSingles 66 = .ok (.goto (-62), 3) := by decide +kernel
theorem d_X11_cardsWithSingles_69 : decode cX11_cardsWithSingles 69 = .ok (.iload_n 1, 1) := by decide +kernel
theorem d_X11_cardsWithSingles_70 : decode cX11_cardsWithSingles 70 = .ok (.ireturn, 1) := by decide +kernel
set_option maxHeartbeats 4000000 in
set_option maxRecDepth 100000 in
theorem t_X11_cardsWithSingles_4 {X : XT_x} {G : GT_g} {z : (Mem_m × Int)} (C : Cx_ (K_X11_cardsWithSingles) X G) (hR : Rx_ X G (some .int)) (x0 : Nat) : ∀ (n : Nat) (M : Mem_m) (x1 : Int) (x2 : Int) (o_x1 : ok_i x1) (o_x2 : ok_i x2), f_X11_cardsWithSingles_4 G.2.2.2 x0 n M x1 x2 = some z → V_ (K_X11_cardsWithSingles) X G (Fq_ X G (Qi_ G z.1 z.2)) M 4 [(0, .ref (G.1 + x0)), (1, iv_i x1), (2, iv_i x2)] [] := by
  intro n
  induction n with
  | zero => intro M x1 x2 o_x1 o_x2 h; exact absurd h (by simp [f_X11_cardsWithSingles_4])
  | succ n ih =>
    intro M x1 x2 o_x1 o_x2 h
    unfold f_X11_cardsWithSingles_4 at h
    refine V_iload_n (j := 2) C d_X11_cardsWithSingles_4 rfl rfl ?_
    refine V_aload_n (j := 0) C d_X11_cardsWithSingles_5 rfl rfl ?_
    refine V_getR C ck_11 fw_X11_10 d_X11_cardsWithSingles_6 h (fun v1 h => ?_)
    refine V_getI C ck_0 fw_X11_69 d_X11_cardsWithSingles_9 h (fun v2 o2 h => ?_)
    refine V_icmp_ge (tgt := 69) C d_X11_cardsWithSingles_12 (by decide) o_x2 o2 h (fun h => ?_) (fun h => ?_)
    · skip
      refine V_aload_n (j := 0) C d_X11_cardsWithSingles_15 rfl rfl ?_
      refine V_getR C ck_11 fw_X11_10 d_X11_cardsWithSingles_16 h (fun v3 h => ?_)
      refine V_getR C ck_0 fw_X11_77 d_X11_cardsWithSingles_19 h (fun v4 h => ?_)
      refine V_iload_n (j := 2) C d_X11_cardsWithSingles_22 rfl rfl ?_
      refine V_aald (t := 0) C tc_0 d_X11_cardsWithSingles_23 o_x2 h (fun v5 h => ?_)
      refine V_callVri (K' := K_X1_isCounted) (a := v5) (ci := 1) (av := []) (rest := []) yi_X1_isCounted (by decide) rfl C (yk_X1_isCounted) l1_X11_278 (by decide) d_X11_cardsWithSingles_24 (fun v hv => ct_X1_isCounted v5 hv) rfl rfl (Nat.le_of_ble_eq_true rfl) h (fun v6 o6 h => ?_)
      refine V_if_eq (tgt := 63) C d_X11_cardsWithSingles_27 (by decide) o6 h (fun h => ?_) (fun h => ?_)
      · skip
        refine V_iinc (j := 2) (lv' := [(2, iv_i (wr_i (x2 + 1))), (0, .ref (G.1 + x0)), (1, iv_i x1)]) C d_X11_cardsWithSingles_63 rfl (by decide) rfl ?_
        refine V_goto (tgt := 4) C d_X11_cardsWithSingles_66 (by decide) ?_
        refine V_lv [1, 2, 0] rfl (ih M x1 (wr_i (x2 + 1)) o_x1 (ok_wr _) h)
      · skip
        refine V_aload_n (j := 0) C d_X11_cardsWithSingles_30 rfl rfl ?_
        refine V_getR C ck_11 fw_X11_28 d_X11_cardsWithSingles_31 h (fun v7 h => ?_)
        refine V_aload_n (j := 0) C d_X11_cardsWithSingles_34 rfl rfl ?_
        refine V_getR C ck_11 fw_X11_10 d_X11_cardsWithSingles_35 h (fun v8 h => ?_)
        refine V_aload_n (j := 0) C d_X11_cardsWithSingles_38 rfl rfl ?_
        refine V_getR C ck_11 fw_X11_10 d_X11_cardsWithSingles_39 h (fun v9 h => ?_)
        refine V_getR C ck_0 fw_X11_77 d_X11_cardsWithSingles_42 h (fun v10 h => ?_)
        refine V_iload_n (j := 2) C d_X11_cardsWithSingles_45 rfl rfl ?_
        refine V_aald (t := 0) C tc_0 d_X11_cardsWithSingles_46 o_x2 h (fun v11 h => ?_)
        refine V_callVwv (K' := K_X2_cutUp) (a := v7) (ci := 2) (av := [.ref (G.1 + v8), .ref (G.1 + v11)]) (rest := []) yi_X2_cutUp (by decide) rfl C (yk_X2_cutUp) l1_X11_158 (by decide) d_X11_cardsWithSingles_47 (fun v hv => ct_X2_cutUp v7 v8 v11 hv) rfl rfl (Nat.le_of_ble_eq_true rfl) h (fun M12 h => ?_)
        refine V_aload_n (j := 0) C d_X11_cardsWithSingles_50 rfl rfl ?_
        refine V_getR C ck_11 fw_X11_28 d_X11_cardsWithSingles_51 h (fun v13 h => ?_)
        refine V_getI C ck_2 fw_X11_282 d_X11_cardsWithSingles_54 h (fun v14 o14 h => ?_)
        refine V_if_le (tgt := 63) C d_X11_cardsWithSingles_57 (by decide) o14 h (fun h => ?_) (fun h => ?_)
        · skip
          refine V_iinc (j := 2) (lv' := [(2, iv_i (wr_i (x2 + 1))), (0, .ref (G.1 + x0)), (1, iv_i x1)]) C d_X11_cardsWithSingles_63 rfl (by decide) rfl ?_
          refine V_goto (tgt := 4) C d_X11_cardsWithSingles_66 (by decide) ?_
          refine V_lv [1, 2, 0] rfl (ih M12 x1 (wr_i (x2 + 1)) o_x1 (ok_wr _) h)
        · skip
          refine V_iinc (j := 1) (lv' := [(1, iv_i (wr_i (x1 + 1))), (0, .ref (G.1 + x0)), (2, iv_i x2)]) C d_X11_cardsWithSingles_60 rfl (by decide) rfl ?_
          refine V_iinc (j := 2) (lv' := [(2, iv_i (wr_i (x2 + 1))), (1, iv_i (wr_i (x1 + 1))), (0, .ref (G.1 + x0))]) C d_X11_cardsWithSingles_63 rfl (by decide) rfl ?_
          refine V_goto (tgt := 4) C d_X11_cardsWithSingles_66 (by decide) ?_
          refine V_lv [2, 1, 0] rfl (ih M12 (wr_i (x1 + 1)) (wr_i (x2 + 1)) (ok_wr _) (ok_wr _) h)
    · skip
      refine V_iload_n (j := 1) C d_X11_cardsWithSingles_69 rfl rfl ?_
      exact V_iret_w C hR d_X11_cardsWithSingles_70 o_x1 h
set_option maxHeartbeats 4000000 in
set_option maxRecDepth 100000 in
theorem t_X11_cardsWithSingles {X : XT_x} {G : GT_g} {M : Mem_m} {z : (Mem_m × Int)} (C : Cx_ (K_X11_cardsWithSingles) X G) (hR : Rx_ X G (some .int)) (x0 : Nat)  (h : f_X11_cardsWithSingles G.2.2.2 M x0 = some z) : V_ (K_X11_cardsWithSingles) X G (Fq_ X G (Qi_ G z.1 z.2)) M 0 [(0, .ref (G.1 + x0))] [] := by
  unfold f_X11_cardsWithSingles at h
  refine V_iconst C d_X11_cardsWithSingles_0 ?_
  refine V_istore_n (lv' := [(1, iv_i 0), (0, .ref (G.1 + x0))]) C d_X11_cardsWithSingles_1 rfl (by decide) rfl ?_
  refine V_iconst C d_X11_cardsWithSingles_2 ?_
  refine V_istore_n (lv' := [(2, iv_i 0), (1, iv_i 0), (0, .ref (G.1 + x0))]) C d_X11_cardsWithSingles_3 rfl (by decide) rfl ?_
  refine V_lv [2, 1, 0] rfl (t_X11_cardsWithSingles_4 C hR x0 FU_ M 0 0 (okc rfl) (okc rfl) h)
set_option maxHeartbeats 4000000 in
set_option maxRecDepth 100000 in
theorem ct_X11_cardsWithSingles {l : Launch} {G : GT_g} {M : Mem_m} (x0 : Nat)  {z : (Mem_m × Int)} (h : f_X11_cardsWithSingles G.2.2.2 M x0 = some z) : MI_ l yX11_cardsWithSingles K_X11_cardsWithSingles (some .int) G M [.ref (G.1 + x0)] z.1 z.2 :=
  met_of (by decide +kernel) rfl (Nat.le_of_ble_eq_true rfl) (fun X hl C hR => by subst hl; exact t_X11_cardsWithSingles C hR x0  h)
theorem d_X11_count_0 : decode cX11_count 0 = .ok (.iload_n 1, 1) := by decide +kernel
theorem d_X11_count_1 : decode cX11_count 1 = .ok (.tableswitch 111 0 7 #[47, 55, 63, 71, 82, 90, 98, 106], 47) := by decide +kernel
theorem d_X11_count_48 : decode cX11_count 48 = .ok (.aload_n 0, 1) := by decide +kernel
theorem d_X11_count_49 : decode cX11_count 49 = .ok (.getfield 10, 3) := by decide +kernel
theorem d_X11_count_52 : decode cX11_count 52 = .ok (.getfield 69, 3) := by decide +kernel
theorem d_X11_count_55 : decode cX11_count 55 = .ok (.ireturn, 1) := by decide +kernel
theorem d_X11_count_56 : decode cX11_count 56 = .ok (.aload_n 0, 1) := by decide +kernel
theorem d_X11_count_57 : decode cX11_count 57 = .ok (.getfield 10, 3) := by decide +kernel
theorem d_X11_count_60 : decode cX11_count 60 = .ok (.invokevirtual 326, 3) := by decide +kernel
theorem d_X11_count_63 : decode cX11_count 63 = .ok (.ireturn, 1) := by decide +kernel
theorem d_X11_count_64 : decode cX11_count 64 = .ok (.aload_n 0, 1) := by decide +kernel
theorem d_X11_count_65 : decode cX11_count 65 = .ok (.getfield 10, 3) := by decide +kernel
theorem d_X11_count_68 : decode cX11_count 68 = .ok (.getfield 136, 3) := by decide +kernel
theorem d_X11_count_71 : decode cX11_count 71 = .ok (.ireturn, 1) := by decide +kernel
theorem d_X11_count_72 : decode cX11_count 72 = .ok (.aload_n 0, 1) := by decide +kernel
theorem d_X11_count_73 : decode cX11_count 73 = .ok (.getfield 10, 3) := by decide +kernel
theorem d_X11_count_76 : decode cX11_count 76 = .ok (.getfield 147, 3) := by decide +kernel
theorem d_X11_count_79 : decode cX11_count 79 = .ok (.invokestatic 253, 3) := by decide +kernel
theorem d_X11_count_82 : decode cX11_count 82 = .ok (.ireturn, 1) := by decide +kernel
theorem d_X11_count_83 : decode cX11_count 83 = .ok (.aload_n 0, 1) := by decide +kernel
theorem d_X11_count_84 : decode cX11_count 84 = .ok (.getfield 10, 3) := by decide +kernel
theorem d_X11_count_87 : decode cX11_count 87 = .ok (.getfield 191, 3) := by decide +kernel
theorem d_X11_count_90 : decode cX11_count 90 = .ok (.ireturn, 1) := by decide +kernel
theorem d_X11_count_91 : decode cX11_count 91 = .ok (.aload_n 0, 1) := by decide +kernel
theorem d_X11_count_92 : decode cX11_count 92 = .ok (.getfield 10, 3) := by decide +kernel
theorem d_X11_count_95 : decode cX11_count 95 = .ok (.getfield 220, 3) := by decide +kernel
theorem d_X11_count_98 : decode cX11_count 98 = .ok (.ireturn, 1) := by decide +kernel
theorem d_X11_count_99 : decode cX11_count 99 = .ok (.aload_n 0, 1) := by decide +kernel
theorem d_X11_count_100 : decode cX11_count 100 = .ok (.getfield 10, 3) := by decide +kernel
theorem d_X11_count_103 : decode cX11_count 103 = .ok (.getfield 288, 3) := by decide +kernel
theorem d_X11_count_106 : decode cX11_count 106 = .ok (.ireturn, 1) := by decide +kernel
theorem d_X11_count_107 : decode cX11_count 107 = .ok (.aload_n 0, 1) := by decide +kernel
theorem d_X11_count_108 : decode cX11_count 108 = .ok (.invokevirtual 329, 3) := by decide +kernel
theorem d_X11_count_111 : decode cX11_count 111 = .ok (.ireturn, 1) := by decide +kernel
theorem d_X11_count_112 : decode cX11_count 112 = .ok (.iconst (-1), 1) := by decide +kernel
theorem d_X11_count_113 : decode cX11_count 113 = .ok (.ireturn, 1) := by decide +kernel
set_option maxHeartbeats 4000000 in
set_option maxRecDepth 100000 in
theorem t_X11_count {X : XT_x} {G : GT_g} {M : Mem_m} {z : (Mem_m × Int)} (C : Cx_ (K_X11_count) X G) (hR : Rx_ X G (some .int)) (x0 : Nat) (x1 : Int) (o_x1 : ok_i x1) (h : f_X11_count G.2.2.2 M x0 x1 = some z) : V_ (K_X11_count) X G (Fq_ X G (Qi_ G z.1 z.2)) M 0 [(0, .ref (G.1 + x0)), (1, iv_i x1)] [] := by
  unfold f_X11_count at h
  refine V_iload_n (j := 1) C d_X11_count_0 rfl rfl ?_
  refine V_eqs h (fun e1 h => ?_) (fun e1 h => ?_)
  · skip
    refine V_tabIn (tgt := 48) C d_X11_count_1 o_x1 (by omega) (by omega) (by rw [e1]; rfl) (by decide) ?_
    refine V_aload_n (j := 0) C d_X11_count_48 rfl rfl ?_
    refine V_getR C ck_11 fw_X11_10 d_X11_count_49 h (fun v2 h => ?_)
    refine V_getI C ck_0 fw_X11_69 d_X11_count_52 h (fun v3 o3 h => ?_)
    exact V_iret_w C hR d_X11_count_55 o3 h
  refine V_eqs h (fun e4 h => ?_) (fun e4 h => ?_)
  · skip
    refine V_tabIn (tgt := 56) C d_X11_count_1 o_x1 (by omega) (by omega) (by rw [e4]; rfl) (by decide) ?_
    refine V_aload_n (j := 0) C d_X11_count_56 rfl rfl ?_
    refine V_getR C ck_11 fw_X11_10 d_X11_count_57 h (fun v5 h => ?_)
    refine V_callVri (K' := K_X0_keptCards) (a := v5) (ci := 0) (av := []) (rest := []) yi_X0_keptCards (by decide) rfl C (yk_X0_keptCards) l1_X11_326 (by decide) d_X11_count_60 (fun v hv => ct_X0_keptCards v5 hv) rfl rfl (Nat.le_of_ble_eq_true rfl) h (fun v6 o6 h => ?_)
    exact V_iret_w C hR d_X11_count_63 o6 h
  refine V_eqs h (fun e7 h => ?_) (fun e7 h => ?_)
  · skip
    refine V_tabIn (tgt := 64) C d_X11_count_1 o_x1 (by omega) (by omega) (by rw [e7]; rfl) (by decide) ?_
    refine V_aload_n (j := 0) C d_X11_count_64 rfl rfl ?_
    refine V_getR C ck_11 fw_X11_10 d_X11_count_65 h (fun v8 h => ?_)
    refine V_getI C ck_0 fw_X11_136 d_X11_count_68 h (fun v9 o9 h => ?_)
    exact V_iret_w C hR d_X11_count_71 o9 h
  refine V_eqs h (fun e10 h => ?_) (fun e10 h => ?_)
  · skip
    refine V_tabIn (tgt := 72) C d_X11_count_1 o_x1 (by omega) (by omega) (by rw [e10]; rfl) (by decide) ?_
    refine V_aload_n (j := 0) C d_X11_count_72 rfl rfl ?_
    refine V_getR C ck_11 fw_X11_10 d_X11_count_73 h (fun v11 h => ?_)
    refine V_getI C ck_0 fw_X11_147 d_X11_count_76 h (fun v12 o12 h => ?_)
    refine V_callSri (K' := K_J6_bitCount_0f7a4) (av := [iv_i v12]) (rest := []) ys_J6_bitCount_0f7a4 C (yk_J6_bitCount_0f7a4) l1_X11_253 (by decide) d_X11_count_79 (fun v hv => ct_J6_bitCount_0f7a4 v12 o12 hv) rfl rfl (Nat.le_of_ble_eq_true rfl) h (fun v13 o13 h => ?_)
    exact V_iret_w C hR d_X11_count_82 o13 h
  refine V_eqs h (fun e14 h => ?_) (fun e14 h => ?_)
  · skip
    refine V_tabIn (tgt := 83) C d_X11_count_1 o_x1 (by omega) (by omega) (by rw [e14]; rfl) (by decide) ?_
    refine V_aload_n (j := 0) C d_X11_count_83 rfl rfl ?_
    refine V_getR C ck_11 fw_X11_10 d_X11_count_84 h (fun v15 h => ?_)
    refine V_getI C ck_0 fw_X11_191 d_X11_count_87 h (fun v16 o16 h => ?_)
    exact V_iret_w C hR d_X11_count_90 o16 h
  refine V_eqs h (fun e17 h => ?_) (fun e17 h => ?_)
  · skip
    refine V_tabIn (tgt := 91) C d_X11_count_1 o_x1 (by omega) (by omega) (by rw [e17]; rfl) (by decide) ?_
    refine V_aload_n (j := 0) C d_X11_count_91 rfl rfl ?_
    refine V_getR C ck_11 fw_X11_10 d_X11_count_92 h (fun v18 h => ?_)
    refine V_getI C ck_0 fw_X11_220 d_X11_count_95 h (fun v19 o19 h => ?_)
    exact V_iret_w C hR d_X11_count_98 o19 h
  refine V_eqs h (fun e20 h => ?_) (fun e20 h => ?_)
  · skip
    refine V_tabIn (tgt := 99) C d_X11_count_1 o_x1 (by omega) (by omega) (by rw [e20]; rfl) (by decide) ?_
    refine V_aload_n (j := 0) C d_X11_count_99 rfl rfl ?_
    refine V_getR C ck_11 fw_X11_10 d_X11_count_100 h (fun v21 h => ?_)
    refine V_getI C ck_0 fw_X11_288 d_X11_count_103 h (fun v22 o22 h => ?_)
    exact V_iret_w C hR d_X11_count_106 o22 h
  refine V_eqs h (fun e23 h => ?_) (fun e23 h => ?_)
  · skip
    refine V_tabIn (tgt := 107) C d_X11_count_1 o_x1 (by omega) (by omega) (by rw [e23]; rfl) (by decide) ?_
    refine V_aload_n (j := 0) C d_X11_count_107 rfl rfl ?_
    refine V_callVwi (K' := K_X11_cardsWithSingles) (a := x0) (ci := 11) (av := []) (rest := []) yi_X11_cardsWithSingles (by decide) rfl C (yk_X11_cardsWithSingles) l1_X11_329 (by decide) d_X11_count_108 (fun v hv => ct_X11_cardsWithSingles x0 hv) rfl rfl (Nat.le_of_ble_eq_true rfl) h (fun z24 o24 h => ?_)
    exact V_iret_w C hR d_X11_count_111 o24 h
  refine V_tabOut (tgt := 112) C d_X11_count_1 o_x1 (by omega) (by decide) ?_
  refine V_iconst C d_X11_count_112 ?_
  exact V_iret_w C hR d_X11_count_113 (okc rfl) h
set_option maxHeartbeats 4000000 in
set_option maxRecDepth 100000 in
theorem ct_X11_count {l : Launch} {G : GT_g} {M : Mem_m} (x0 : Nat) (x1 : Int) (o_x1 : ok_i x1) {z : (Mem_m × Int)} (h : f_X11_count G.2.2.2 M x0 x1 = some z) : MI_ l yX11_count K_X11_count (some .int) G M [.ref (G.1 + x0), iv_i x1] z.1 z.2 :=
  met_of (by decide +kernel) rfl (Nat.le_of_ble_eq_true rfl) (fun X hl C hR => by subst hl; exact t_X11_count C hR x0 x1 o_x1 h)
theorem d_X11_keep_0 : decode cX11_keep 0 = .ok (.iload_n 1, 1) := by decide +kernel
theorem d_X11_keep_1 : decode cX11_keep 1 = .ok (.bipush 8, 2) := by decide +kernel
theorem d_X11_keep_3 : decode cX11_keep 3 = .ok (.invokestatic 61, 3) := by decide +kernel
theorem d_X11_keep_6 : decode cX11_keep 6 = .ok (.ifCond .eq 30, 3) := by decide +kernel
theorem d_X11_keep_9 : decode cX11_keep 9 = .ok (.iload_n 2, 1) := by decide +kernel
theorem d_X11_keep_10 : decode cX11_keep 10 = .ok (.iconst 2, 1) := by decide +kernel
theorem d_X11_keep_11 : decode cX11_keep 11 = .ok (.invokestatic 61, 3) := by decide +kernel
theorem d_X11_keep_14 : decode cX11_keep 14 = .ok (.ifCond .eq 22, 3) := by decide +kernel
theorem d_X11_keep_17 : decode cX11_keep 17 = .ok (.iload_n 2, 1) := by decide +kernel
theorem d_X11_keep_18 : decode cX11_keep 18 = .ok (.iconst 1, 1) := by decide +kernel
theorem d_X11_keep_19 : decode cX11_keep 19 = .ok (.if_icmp .ne 19, 3) := by decide +kernel
theorem d_X11_keep_22 : decode cX11_keep 22 = .ok (.iload_n 3, 1) := by decide +kernel
theorem d_X11_keep_23 : decode cX11_keep 23 = .ok (.aload_n 0, 1) := by decide +kernel
theorem d_X11_keep_24 : decode cX11_keep 24 = .ok (.getfield 10, 3) := by decide +kernel
theorem d_X11_keep_27 : decode cX11_keep 27 = .ok (.getfield 136, 3) := by decide +kernel
theorem d_X11_keep_30 : decode cX11_keep 30 = .ok (.invokestatic 61, 3) := by decide +kernel
theorem d_X11_keep_33 : decode cX11_keep 33 = .ok (.ifCond .ne 5, 3) := by decide +kernel
theorem d_X11_keep_36 : decode cX11_keep 36 = .ok (.iconst (-1), 1) := by decide +kernel
theorem d_X11_keep_37 : decode cX11_keep 37 = .ok (.ireturn, 1) := by decide +kernel
theorem d_X11_keep_38 : decode cX11_keep 38 = .ok (.iload_n 2, 1) := by decide +kernel
theorem d_X11_keep_39 : decode cX11_keep 39 = .ok (.ifCond .ne 15, 3) := by decide +kernel
theorem d_X11_keep_42 : decode cX11_keep 42 = .ok (.aload_n 0, 1) := by decide +kernel
theorem d_X11_keep_43 : decode cX11_keep 43 = .ok (.getfield 21, 3) := by decide +kernel
theorem d_X11_keep_46 : decode cX11_keep 46 = .ok (.iload_n 1, 1) := by decide +kernel
theorem d_X11_keep_47 : decode cX11_keep 47 = .ok (.aaload, 1) := by decide +kernel
theorem d_X11_keep_48 : decode cX11_keep 48 = .ok (.invokevirtual 332, 3) := by decide +kernel
theorem d_X11_keep_51 : decode cX11_keep 51 = .ok (.goto 21, 3) := by decide +kernel
theorem d_X11_keep_54 : decode cX11_keep 54 = .ok (.aload_n 0, 1) := by decide +kernel
theorem d_X11_keep_55 : decode cX11_keep 55 = .ok (.getfield 21, 3) := by decide +kernel
theorem d_X11_keep_58 : decode cX11_keep 58 = .ok (.iload_n 1, 1) := by decide +kernel
theorem d_X11_keep_59 : decode cX11_keep 59 = .ok (.aaload, 1) := by decide +kernel
theorem d_X11_keep_60 : decode cX11_keep 60 = .ok (.aload_n 0, 1) := by decide +kernel
theorem d_X11_keep_61 : decode cX11_keep 61 = .ok (.getfield 10, 3) := by decide +kernel
theorem d_X11_keep_64 : decode cX11_keep 64 = .ok (.getfield 139, 3) := by decide +kernel
theorem d_X11_keep_67 : decode cX11_keep 67 = .ok (.iload_n 3, 1) := by decide +kernel
theorem d_X11_keep_68 : decode cX11_keep 68 = .ok (.aaload, 1) := by decide +kernel
theorem d_X11_keep_69 : decode cX11_keep 69 = .ok (.invokevirtual 335, 3) := by decide +kernel
theorem d_X11_keep_72 : decode cX11_keep 72 = .ok (.iconst 0, 1) := by decide +kernel
theorem d_X11_keep_73 : decode cX11_keep 73 = .ok (.ireturn, 1) := by decide +kernel
set_option maxHeartbeats 4000000 in
set_option maxRecDepth 100000 in
theorem t_X11_keep_38 {X : XT_x} {G : GT_g} {z : (Mem_m × Int)} (C : Cx_ (K_X11_keep) X G) (hR : Rx_ X G (some .int)) (M : Mem_m) (x0 : Nat) (x1 : Int) (x2 : Int) (x3 : Int) (o_x1 : ok_i x1) (o_x2 : ok_i x2) (o_x3 : ok_i x3) (h : f_X11_keep_38 G.2.2.2 M x0 x1 x2 x3 = some z) : V_ (K_X11_keep) X G (Fq_ X G (Qi_ G z.1 z.2)) M 38 [(0, .ref (G.1 + x0)), (1, iv_i x1), (2, iv_i x2), (3, iv_i x3)] [] := by
  unfold f_X11_keep_38 at h
  refine V_iload_n (j := 2) C d_X11_keep_38 rfl rfl ?_
  refine V_if_ne (tgt := 54) C d_X11_keep_39 (by decide) o_x2 h (fun h => ?_) (fun h => ?_)
  · skip
    refine V_aload_n (j := 0) C d_X11_keep_42 rfl rfl ?_
    refine V_getR C ck_11 fw_X11_21 d_X11_keep_43 h (fun v1 h => ?_)
    refine V_iload_n (j := 1) C d_X11_keep_46 rfl rfl ?_
    refine V_aald (t := 5) C tc_5 d_X11_keep_47 o_x1 h (fun v2 h => ?_)
    refine V_callVwv (K' := K_X9_holdNothing) (a := v2) (ci := 9) (av := []) (rest := []) yi_X9_holdNothing (by decide) rfl C (yk_X9_holdNothing) l1_X11_332 (by decide) d_X11_keep_48 (fun v hv => ct_X9_holdNothing v2 hv) rfl rfl (Nat.le_of_ble_eq_true rfl) h (fun M3 h => ?_)
    refine V_goto (tgt := 72) C d_X11_keep_51 (by decide) ?_
    refine V_iconst C d_X11_keep_72 ?_
    exact V_iret_w C hR d_X11_keep_73 (okc rfl) h
  · skip
    refine V_aload_n (j := 0) C d_X11_keep_54 rfl rfl ?_
    refine V_getR C ck_11 fw_X11_21 d_X11_keep_55 h (fun v4 h => ?_)
    refine V_iload_n (j := 1) C d_X11_keep_58 rfl rfl ?_
    refine V_aald (t := 5) C tc_5 d_X11_keep_59 o_x1 h (fun v5 h => ?_)
    refine V_aload_n (j := 0) C d_X11_keep_60 rfl rfl ?_
    refine V_getR C ck_11 fw_X11_10 d_X11_keep_61 h (fun v6 h => ?_)
    refine V_getR C ck_0 fw_X11_139 d_X11_keep_64 h (fun v7 h => ?_)
    refine V_iload_n (j := 3) C d_X11_keep_67 rfl rfl ?_
    refine V_aald (t := 1) C tc_1 d_X11_keep_68 o_x3 h (fun v8 h => ?_)
    refine V_callVwv (K' := K_X9_holdNote) (a := v5) (ci := 9) (av := [.ref (G.1 + v8)]) (rest := []) yi_X9_holdNote (by decide) rfl C (yk_X9_holdNote) l1_X11_335 (by decide) d_X11_keep_69 (fun v hv => ct_X9_holdNote v5 v8 hv) rfl rfl (Nat.le_of_ble_eq_true rfl) h (fun M9 h => ?_)
    refine V_iconst C d_X11_keep_72 ?_
    exact V_iret_w C hR d_X11_keep_73 (okc rfl) h
set_option maxHeartbeats 4000000 in
set_option maxRecDepth 100000 in
theorem t_X11_keep {X : XT_x} {G : GT_g} {M : Mem_m} {z : (Mem_m × Int)} (C : Cx_ (K_X11_keep) X G) (hR : Rx_ X G (some .int)) (x0 : Nat) (x1 : Int) (x2 : Int) (x3 : Int) (o_x1 : ok_i x1) (o_x2 : ok_i x2) (o_x3 : ok_i x3) (h : f_X11_keep G.2.2.2 M x0 x1 x2 x3 = some z) : V_ (K_X11_keep) X G (Fq_ X G (Qi_ G z.1 z.2)) M 0 [(0, .ref (G.1 + x0)), (1, iv_i x1), (2, iv_i x2), (3, iv_i x3)] [] := by
  unfold f_X11_keep at h
  refine V_iload_n (j := 1) C d_X11_keep_0 rfl rfl ?_
  refine V_bipush (v := 8) C d_X11_keep_1 rfl ?_
  refine V_callSri (K' := K_X11_isIn) (av := [iv_i x1, iv_i 8]) (rest := []) ys_X11_isIn C (yk_X11_isIn) l1_X11_61 (by decide) d_X11_keep_3 (fun v hv => ct_X11_isIn x1 8 o_x1 (okc rfl) hv) rfl rfl (Nat.le_of_ble_eq_true rfl) h (fun v1 o1 h => ?_)
  refine V_if_eq (tgt := 36) C d_X11_keep_6 (by decide) o1 h (fun h => ?_) (fun h => ?_)
  · skip
    refine V_iconst C d_X11_keep_36 ?_
    exact V_iret_w C hR d_X11_keep_37 (okc rfl) h
  · skip
    refine V_iload_n (j := 2) C d_X11_keep_9 rfl rfl ?_
    refine V_iconst C d_X11_keep_10 ?_
    refine V_callSri (K' := K_X11_isIn) (av := [iv_i x2, iv_i 2]) (rest := []) ys_X11_isIn C (yk_X11_isIn) l1_X11_61 (by decide) d_X11_keep_11 (fun v hv => ct_X11_isIn x2 2 o_x2 (okc rfl) hv) rfl rfl (Nat.le_of_ble_eq_true rfl) h (fun v2 o2 h => ?_)
    refine V_if_eq (tgt := 36) C d_X11_keep_14 (by decide) o2 h (fun h => ?_) (fun h => ?_)
    · skip
      refine V_iconst C d_X11_keep_36 ?_
      exact V_iret_w C hR d_X11_keep_37 (okc rfl) h
    · skip
      refine V_iload_n (j := 2) C d_X11_keep_17 rfl rfl ?_
      refine V_iconst C d_X11_keep_18 ?_
      refine V_icmp_ne (tgt := 38) C d_X11_keep_19 (by decide) o_x2 (okc rfl) h (fun h => ?_) (fun h => ?_)
      · skip
        refine V_iload_n (j := 3) C d_X11_keep_22 rfl rfl ?_
        refine V_aload_n (j := 0) C d_X11_keep_23 rfl rfl ?_
        refine V_getR C ck_11 fw_X11_10 d_X11_keep_24 h (fun v3 h => ?_)
        refine V_getI C ck_0 fw_X11_136 d_X11_keep_27 h (fun v4 o4 h => ?_)
        refine V_callSri (K' := K_X11_isIn) (av := [iv_i x3, iv_i v4]) (rest := []) ys_X11_isIn C (yk_X11_isIn) l1_X11_61 (by decide) d_X11_keep_30 (fun v hv => ct_X11_isIn x3 v4 o_x3 o4 hv) rfl rfl (Nat.le_of_ble_eq_true rfl) h (fun v5 o5 h => ?_)
        refine V_if_ne (tgt := 38) C d_X11_keep_33 (by decide) o5 h (fun h => ?_) (fun h => ?_)
        · skip
          refine V_iconst C d_X11_keep_36 ?_
          exact V_iret_w C hR d_X11_keep_37 (okc rfl) h
        · skip
          refine V_lv [0, 1, 2, 3] rfl (t_X11_keep_38 C hR M x0 x1 x2 x3 o_x1 o_x2 o_x3 h)
      · skip
        refine V_lv [0, 1, 2, 3] rfl (t_X11_keep_38 C hR M x0 x1 x2 x3 o_x1 o_x2 o_x3 h)
set_option maxHeartbeats 4000000 in
set_option maxRecDepth 100000 in
theorem ct_X11_keep {l : Launch} {G : GT_g} {M : Mem_m} (x0 : Nat) (x1 : Int) (x2 : Int) (x3 : Int) (o_x1 : ok_i x1) (o_x2 : ok_i x2) (o_x3 : ok_i x3) {z : (Mem_m × Int)} (h : f_X11_keep G.2.2.2 M x0 x1 x2 x3 = some z) : MI_ l yX11_keep K_X11_keep (some .int) G M [.ref (G.1 + x0), iv_i x1, iv_i x2, iv_i x3] z.1 z.2 :=
  met_of (by decide +kernel) rfl (Nat.le_of_ble_eq_true rfl) (fun X hl C hR => by subst hl; exact t_X11_keep C hR x0 x1 x2 x3 o_x1 o_x2 o_x3 h)
theorem d_X11_row_0 : decode cX11_row 0 = .ok (.iload_n 1, 1) := by decide +kernel
theorem d_X11_row_1 : decode cX11_row 1 = .ok (.bipush 8, 2) := by decide +kernel
theorem d_X11_row_3 : decode cX11_row 3 = .ok (.invokestatic 61, 3) := by decide +kernel
theorem d_X11_row_6 : decode cX11_row 6 = .ok (.ifCond .eq 17, 3) := by decide +kernel
theorem d_X11_row_9 : decode cX11_row 9 = .ok (.iload_n 2, 1) := by decide +kernel
theorem d_X11_row_10 : decode cX11_row 10 = .ok (.iconst 3, 1) := by decide +kernel
theorem d_X11_row_11 : decode cX11_row 11 = .ok (.invokestatic 61, 3) := by decide +kernel
theorem d_X11_row_14 : decode cX11_row 14 = .ok (.ifCond .eq 9, 3) := by decide +kernel
theorem d_X11_row_17 : decode cX11_row 17 = .ok (.iload_n 3, 1) := by decide +kernel
theorem d_X11_row_18 : decode cX11_row 18 = .ok (.bipush 80, 2) := by decide +kernel
theorem d_X11_row_20 : decode cX11_row 20 = .ok (.if_icmp .le 5, 3) := by decide +kernel
theorem d_X11_row_23 : decode cX11_row 23 = .ok (.iconst (-1), 1) := by decide +kernel
theorem d_X11_row_24 : decode cX11_row 24 = .ok (.ireturn, 1) := by decide +kernel
theorem d_X11_row_25 : decode cX11_row 25 = .ok (.iload_n 3, 1) := by decide +kernel
theorem d_X11_row_26 : decode cX11_row 26 = .ok (.ifCond .ge 6, 3) := by decide +kernel
theorem d_X11_row_29 : decode cX11_row 29 = .ok (.bipush (-14), 2) := by decide +kernel
theorem d_X11_row_31 : decode cX11_row 31 = .ok (.ireturn, 1) := by decide +kernel
theorem d_X11_row_32 : decode cX11_row 32 = .ok (.aload_n 0, 1) := by decide +kernel
theorem d_X11_row_33 : decode cX11_row 33 = .ok (.getfield 21, 3) := by decide +kernel
theorem d_X11_row_36 : decode cX11_row 36 = .ok (.iload_n 1, 1) := by decide +kernel
theorem d_X11_row_37 : decode cX11_row 37 = .ok (.aaload, 1) := by decide +kernel
theorem d_X11_row_38 : decode cX11_row 38 = .ok (.iload_n 2, 1) := by decide +kernel
theorem d_X11_row_39 : decode cX11_row 39 = .ok (.iload_n 3, 1) := by decide +kernel
theorem d_X11_row_40 : decode cX11_row 40 = .ok (.invokevirtual 339, 3) := by decide +kernel
theorem d_X11_row_43 : decode cX11_row 43 = .ok (.iconst 0, 1) := by decide +kernel
theorem d_X11_row_44 : decode cX11_row 44 = .ok (.ireturn, 1) := by decide +kernel
set_option maxHeartbeats 4000000 in
set_option maxRecDepth 100000 in
theorem t_X11_row {X : XT_x} {G : GT_g} {M : Mem_m} {z : (Mem_m × Int)} (C : Cx_ (K_X11_row) X G) (hR : Rx_ X G (some .int)) (x0 : Nat) (x1 : Int) (x2 : Int) (x3 : Int) (o_x1 : ok_i x1) (o_x2 : ok_i x2) (o_x3 : ok_i x3) (h : f_X11_row G.2.2.2 M x0 x1 x2 x3 = some z) : V_ (K_X11_row) X G (Fq_ X G (Qi_ G z.1 z.2)) M 0 [(0, .ref (G.1 + x0)), (1, iv_i x1), (2, iv_i x2), (3, iv_i x3)] [] := by
  unfold f_X11_row at h
  refine V_iload_n (j := 1) C d_X11_row_0 rfl rfl ?_
  refine V_bipush (v := 8) C d_X11_row_1 rfl ?_
  refine V_callSri (K' := K_X11_isIn) (av := [iv_i x1, iv_i 8]) (rest := []) ys_X11_isIn C (yk_X11_isIn) l1_X11_61 (by decide) d_X11_row_3 (fun v hv => ct_X11_isIn x1 8 o_x1 (okc rfl) hv) rfl rfl (Nat.le_of_ble_eq_true rfl) h (fun v1 o1 h => ?_)
  refine V_if_eq (tgt := 23) C d_X11_row_6 (by decide) o1 h (fun h => ?_) (fun h => ?_)
  · skip
    refine V_iconst C d_X11_row_23 ?_
    exact V_iret_w C hR d_X11_row_24 (okc rfl) h
  · skip
    refine V_iload_n (j := 2) C d_X11_row_9 rfl rfl ?_
    refine V_iconst C d_X11_row_10 ?_
    refine V_callSri (K' := K_X11_isIn) (av := [iv_i x2, iv_i 3]) (rest := []) ys_X11_isIn C (yk_X11_isIn) l1_X11_61 (by decide) d_X11_row_11 (fun v hv => ct_X11_isIn x2 3 o_x2 (okc rfl) hv) rfl rfl (Nat.le_of_ble_eq_true rfl) h (fun v2 o2 h => ?_)
    refine V_if_eq (tgt := 23) C d_X11_row_14 (by decide) o2 h (fun h => ?_) (fun h => ?_)
    · skip
      refine V_iconst C d_X11_row_23 ?_
      exact V_iret_w C hR d_X11_row_24 (okc rfl) h
    · skip
      refine V_iload_n (j := 3) C d_X11_row_17 rfl rfl ?_
      refine V_bipush (v := 80) C d_X11_row_18 rfl ?_
      refine V_icmp_le (tgt := 25) C d_X11_row_20 (by decide) o_x3 (okc rfl) h (fun h => ?_) (fun h => ?_)
      · skip
        refine V_iload_n (j := 3) C d_X11_row_25 rfl rfl ?_
        refine V_if_ge (tgt := 32) C d_X11_row_26 (by decide) o_x3 h (fun h => ?_) (fun h => ?_)
        · skip
          refine V_bipush (v := (-14)) C d_X11_row_29 rfl ?_
          exact V_iret_w C hR d_X11_row_31 (okc rfl) h
        · skip
          refine V_aload_n (j := 0) C d_X11_row_32 rfl rfl ?_
          refine V_getR C ck_11 fw_X11_21 d_X11_row_33 h (fun v3 h => ?_)
          refine V_iload_n (j := 1) C d_X11_row_36 rfl rfl ?_
          refine V_aald (t := 5) C tc_5 d_X11_row_37 o_x1 h (fun v4 h => ?_)
          refine V_iload_n (j := 2) C d_X11_row_38 rfl rfl ?_
          refine V_iload_n (j := 3) C d_X11_row_39 rfl rfl ?_
          refine V_callVwv (K' := K_X9_holdRow) (a := v4) (ci := 9) (av := [iv_i x2, iv_i x3]) (rest := []) yi_X9_holdRow (by decide) rfl C (yk_X9_holdRow) l1_X11_339 (by decide) d_X11_row_40 (fun v hv => ct_X9_holdRow v4 x2 x3 o_x2 o_x3 hv) rfl rfl (Nat.le_of_ble_eq_true rfl) h (fun M5 h => ?_)
          refine V_iconst C d_X11_row_43 ?_
          exact V_iret_w C hR d_X11_row_44 (okc rfl) h
      · skip
        refine V_iconst C d_X11_row_23 ?_
        exact V_iret_w C hR d_X11_row_24 (okc rfl) h
set_option maxHeartbeats 4000000 in
set_option maxRecDepth 100000 in
theorem ct_X11_row {l : Launch} {G : GT_g} {M : Mem_m} (x0 : Nat) (x1 : Int) (x2 : Int) (x3 : Int) (o_x1 : ok_i x1) (o_x2 : ok_i x2) (o_x3 : ok_i x3) {z : (Mem_m × Int)} (h : f_X11_row G.2.2.2 M x0 x1 x2 x3 = some z) : MI_ l yX11_row K_X11_row (some .int) G M [.ref (G.1 + x0), iv_i x1, iv_i x2, iv_i x3] z.1 z.2 :=
  met_of (by decide +kernel) rfl (Nat.le_of_ble_eq_true rfl) (fun X hl C hR => by subst hl; exact t_X11_row C hR x0 x1 x2 x3 o_x1 o_x2 o_x3 h)
