theorem d_X11_put_0 : decode cX11_put 0 = .ok (.iload_n 1, 1) := by decide +kernel
theorem d_X11_put_1 : decode cX11_put 1 = .ok (.bipush 8, 2) := by decide +kernel
theorem d_X11_put_3 : decode cX11_put 3 = .ok (.invokestatic 61, 3) := by decide +kernel
theorem d_X11_put_6 : decode cX11_put 6 = .ok (.ifCond .ne 5, 3) := by decide +kernel
theorem d_X11_put_9 : decode cX11_put 9 = .ok (.iconst (-1), 1) := by decide +kernel
theorem d_X11_put_10 : decode cX11_put 10 = .ok (.ireturn, 1) := by decide +kernel
theorem d_X11_put_11 : decode cX11_put 11 = .ok (.aload_n 0, 1) := by decide +kernel
theorem d_X11_put_12 : decode cX11_put 12 = .ok (.getfield 21, 3) := by decide +kernel
theorem d_X11_put_15 : decode cX11_put 15 = .ok (.iload_n 1, 1) := by decide +kernel
theorem d_X11_put_16 : decode cX11_put 16 = .ok (.aaload, 1) := by decide +kernel
theorem d_X11_put_17 : decode cX11_put 17 = .ok (.invokevirtual 343, 3) := by decide +kernel
theorem d_X11_put_20 : decode cX11_put 20 = .ok (.istore 4, 2) := by decide +kernel
theorem d_X11_put_22 : decode cX11_put 22 = .ok (.iload 4, 2) := by decide +kernel
theorem d_X11_put_24 : decode cX11_put 24 = .ok (.ifCond .eq 6, 3) := by decide +kernel
theorem d_X11_put_27 : decode cX11_put 27 = .ok (.iload 4, 2) := by decide +kernel
theorem d_X11_put_29 : decode cX11_put 29 = .ok (.ireturn, 1) := by decide +kernel
theorem d_X11_put_30 : decode cX11_put 30 = .ok (.iload_n 2, 1) := by decide +kernel
theorem d_X11_put_31 : decode cX11_put 31 = .ok (.aload_n 0, 1) := by decide +kernel
theorem d_X11_put_32 : decode cX11_put 32 = .ok (.getfield 21, 3) := by decide +kernel
theorem d_X11_put_35 : decode cX11_put 35 = .ok (.iload_n 1, 1) := by decide +kernel
theorem d_X11_put_36 : decode cX11_put 36 = .ok (.aaload, 1) := by decide +kernel
theorem d_X11_put_37 : decode cX11_put 37 = .ok (.getfield 230, 3) := by decide +kernel
theorem d_X11_put_40 : decode cX11_put 40 = .ok (.invokestatic 61, 3) := by decide +kernel
theorem d_X11_put_43 : decode cX11_put 43 = .ok (.ifCond .ne 6, 3) := by decide +kernel
theorem d_X11_put_46 : decode cX11_put 46 = .ok (.bipush (-13), 2) := by decide +kernel
theorem d_X11_put_48 : decode cX11_put 48 = .ok (.ireturn, 1) := by decide +kernel
theorem d_X11_put_49 : decode cX11_put 49 = .ok (.aload_n 0, 1) := by decide +kernel
theorem d_X11_put_50 : decode cX11_put 50 = .ok (.getfield 21, 3) := by decide +kernel
theorem d_X11_put_53 : decode cX11_put 53 = .ok (.iload_n 1, 1) := by decide +kernel
theorem d_X11_put_54 : decode cX11_put 54 = .ok (.aaload, 1) := by decide +kernel
theorem d_X11_put_55 : decode cX11_put 55 = .ok (.iload_n 2, 1) := by decide +kernel
theorem d_X11_put_56 : decode cX11_put 56 = .ok (.iload_n 3, 1) := by decide +kernel
theorem d_X11_put_57 : decode cX11_put 57 = .ok (.invokevirtual 346, 3) := by decide +kernel
theorem d_X11_put_60 : decode cX11_put 60 = .ok (.iconst 0, 1) := by decide +kernel
theorem d_X11_put_61 : decode cX11_put 61 = .ok (.ireturn, 1) := by decide +kernel
set_option maxHeartbeats 4000000 in
set_option maxRecDepth 100000 in
theorem t_X11_put {X : XT_x} {G : GT_g} {M : Mem_m} {z : (Mem_m × Int)} (C : Cx_ (K_X11_put) X G) (hR : Rx_ X G (some .int)) (x0 : Nat) (x1 : Int) (x2 : Int) (x3 : Int) (o_x1 : ok_i x1) (o_x2 : ok_i x2) (o_x3 : ok_i x3) (h : f_X11_put G.2.2.2 M x0 x1 x2 x3 = some z) : V_ (K_X11_put) X G (Fq_ X G (Qi_ G z.1 z.2)) M 0 [(0, .ref (G.1 + x0)), (1, iv_i x1), (2, iv_i x2), (3, iv_i x3)] [] := by
  unfold f_X11_put at h
  refine V_iload_n (j := 1) C d_X11_put_0 rfl rfl ?_
  refine V_bipush (v := 8) C d_X11_put_1 rfl ?_
  refine V_callSri (K' := K_X11_isIn) (av := [iv_i x1, iv_i 8]) (rest := []) ys_X11_isIn C (yk_X11_isIn) l1_X11_61 (by decide) d_X11_put_3 (fun v hv => ct_X11_isIn x1 8 o_x1 (okc rfl) hv) rfl rfl (Nat.le_of_ble_eq_true rfl) h (fun v1 o1 h => ?_)
  refine V_if_ne (tgt := 11) C d_X11_put_6 (by decide) o1 h (fun h => ?_) (fun h => ?_)
  · skip
    refine V_iconst C d_X11_put_9 ?_
    exact V_iret_w C hR d_X11_put_10 (okc rfl) h
  · skip
    refine V_aload_n (j := 0) C d_X11_put_11 rfl rfl ?_
    refine V_getR C ck_11 fw_X11_21 d_X11_put_12 h (fun v2 h => ?_)
    refine V_iload_n (j := 1) C d_X11_put_15 rfl rfl ?_
    refine V_aald (t := 5) C tc_5 d_X11_put_16 o_x1 h (fun v3 h => ?_)
    refine V_callVri (K' := K_X9_refusalOfRow) (a := v3) (ci := 9) (av := []) (rest := []) yi_X9_refusalOfRow (by decide) rfl C (yk_X9_refusalOfRow) l1_X11_343 (by decide) d_X11_put_17 (fun v hv => ct_X9_refusalOfRow v3 hv) rfl rfl (Nat.le_of_ble_eq_true rfl) h (fun v4 o4 h => ?_)
    refine V_istore (lv' := [(4, iv_i v4), (0, .ref (G.1 + x0)), (1, iv_i x1), (2, iv_i x2), (3, iv_i x3)]) C d_X11_put_20 (by decide) rfl ?_
    refine V_iload (j := 0) C d_X11_put_22 rfl ?_
    refine V_if_eq (tgt := 30) C d_X11_put_24 (by decide) o4 h (fun h => ?_) (fun h => ?_)
    · skip
      refine V_iload_n (j := 3) C d_X11_put_30 rfl rfl ?_
      refine V_aload_n (j := 1) C d_X11_put_31 rfl rfl ?_
      refine V_getR C ck_11 fw_X11_21 d_X11_put_32 h (fun v5 h => ?_)
      refine V_iload_n (j := 2) C d_X11_put_35 rfl rfl ?_
      refine V_aald (t := 5) C tc_5 d_X11_put_36 o_x1 h (fun v6 h => ?_)
      refine V_getI C ck_9 fw_X11_230 d_X11_put_37 h (fun v7 o7 h => ?_)
      refine V_callSri (K' := K_X11_isIn) (av := [iv_i x2, iv_i v7]) (rest := []) ys_X11_isIn C (yk_X11_isIn) l1_X11_61 (by decide) d_X11_put_40 (fun v hv => ct_X11_isIn x2 v7 o_x2 o7 hv) rfl rfl (Nat.le_of_ble_eq_true rfl) h (fun v8 o8 h => ?_)
      refine V_if_ne (tgt := 49) C d_X11_put_43 (by decide) o8 h (fun h => ?_) (fun h => ?_)
      · skip
        refine V_bipush (v := (-13)) C d_X11_put_46 rfl ?_
        exact V_iret_w C hR d_X11_put_48 (okc rfl) h
      · skip
        refine V_aload_n (j := 1) C d_X11_put_49 rfl rfl ?_
        refine V_getR C ck_11 fw_X11_21 d_X11_put_50 h (fun v9 h => ?_)
        refine V_iload_n (j := 2) C d_X11_put_53 rfl rfl ?_
        refine V_aald (t := 5) C tc_5 d_X11_put_54 o_x1 h (fun v10 h => ?_)
        refine V_iload_n (j := 3) C d_X11_put_55 rfl rfl ?_
        refine V_iload_n (j := 4) C d_X11_put_56 rfl rfl ?_
        refine V_callVwv (K' := K_X9_set) (a := v10) (ci := 9) (av := [iv_i x2, iv_i x3]) (rest := []) yi_X9_set (by decide) rfl C (yk_X9_set) l1_X11_346 (by decide) d_X11_put_57 (fun v hv => ct_X9_set v10 x2 x3 o_x2 o_x3 hv) rfl rfl (Nat.le_of_ble_eq_true rfl) h (fun M11 h => ?_)
        refine V_iconst C d_X11_put_60 ?_
        exact V_iret_w C hR d_X11_put_61 (okc rfl) h
    · skip
      refine V_iload (j := 0) C d_X11_put_27 rfl ?_
      exact V_iret_w C hR d_X11_put_29 o4 h
set_option maxHeartbeats 4000000 in
set_option maxRecDepth 100000 in
theorem ct_X11_put {l : Launch} {G : GT_g} {M : Mem_m} (x0 : Nat) (x1 : Int) (x2 : Int) (x3 : Int) (o_x1 : ok_i x1) (o_x2 : ok_i x2) (o_x3 : ok_i x3) {z : (Mem_m × Int)} (h : f_X11_put G.2.2.2 M x0 x1 x2 x3 = some z) : MI_ l yX11_put K_X11_put (some .int) G M [.ref (G.1 + x0), iv_i x1, iv_i x2, iv_i x3] z.1 z.2 :=
  met_of (by decide +kernel) rfl (Nat.le_of_ble_eq_true rfl) (fun X hl C hR => by subst hl; exact t_X11_put C hR x0 x1 x2 x3 o_x1 o_x2 o_x3 h)
theorem d_X11_copy_0 : decode cX11_copy 0 = .ok (.iload_n 1, 1) := by decide +kernel
theorem d_X11_copy_1 : decode cX11_copy 1 = .ok (.bipush 8, 2) := by decide +kernel
theorem d_X11_copy_3 : decode cX11_copy 3 = .ok (.invokestatic 61, 3) := by decide +kernel
theorem d_X11_copy_6 : decode cX11_copy 6 = .ok (.ifCond .eq 12, 3) := by decide +kernel
theorem d_X11_copy_9 : decode cX11_copy 9 = .ok (.iload_n 3, 1) := by decide +kernel
theorem d_X11_copy_10 : decode cX11_copy 10 = .ok (.bipush 8, 2) := by decide +kernel
theorem d_X11_copy_12 : decode cX11_copy 12 = .ok (.invokestatic 61, 3) := by decide +kernel
theorem d_X11_copy_15 : decode cX11_copy 15 = .ok (.ifCond .ne 5, 3) := by decide +kernel
theorem d_X11_copy_18 : decode cX11_copy 18 = .ok (.iconst (-1), 1) := by decide +kernel
theorem d_X11_copy_19 : decode cX11_copy 19 = .ok (.ireturn, 1) := by decide +kernel
theorem d_X11_copy_20 : decode cX11_copy 20 = .ok (.aload_n 0, 1) := by decide +kernel
theorem d_X11_copy_21 : decode cX11_copy 21 = .ok (.getfield 21, 3) := by decide +kernel
theorem d_X11_copy_24 : decode cX11_copy 24 = .ok (.iload_n 1, 1) := by decide +kernel
theorem d_X11_copy_25 : decode cX11_copy 25 = .ok (.aaload, 1) := by decide +kernel
theorem d_X11_copy_26 : decode cX11_copy 26 = .ok (.astore 6, 2) := by decide +kernel
theorem d_X11_copy_28 : decode cX11_copy 28 = .ok (.aload_n 0, 1) := by decide +kernel
theorem d_X11_copy_29 : decode cX11_copy 29 = .ok (.getfield 21, 3) := by decide +kernel
theorem d_X11_copy_32 : decode cX11_copy 32 = .ok (.iload_n 3, 1) := by decide +kernel
theorem d_X11_copy_33 : decode cX11_copy 33 = .ok (.aaload, 1) := by decide +kernel
theorem d_X11_copy_34 : decode cX11_copy 34 = .ok (.astore 7, 2) := by decide +kernel
theorem d_X11_copy_36 : decode cX11_copy 36 = .ok (.aload 6, 2) := by decide +kernel
theorem d_X11_copy_38 : decode cX11_copy 38 = .ok (.getfield 363, 3) := by decide +kernel
theorem d_X11_copy_41 : decode cX11_copy 41 = .ok (.ifCond .eq 11, 3) := by decide +kernel
theorem d_X11_copy_44 : decode cX11_copy 44 = .ok (.aload 7, 2) := by decide +kernel
theorem d_X11_copy_46 : decode cX11_copy 46 = .ok (.getfield 363, 3) := by decide +kernel
theorem d_X11_copy_49 : decode cX11_copy 49 = .ok (.ifCond .ne 6, 3) := by decide +kernel
theorem d_X11_copy_52 : decode cX11_copy 52 = .ok (.bipush (-11), 2) := by decide +kernel
theorem d_X11_copy_54 : decode cX11_copy 54 = .ok (.ireturn, 1) := by decide +kernel
theorem d_X11_copy_55 : decode cX11_copy 55 = .ok (.aload 6, 2) := by decide +kernel
theorem d_X11_copy_57 : decode cX11_copy 57 = .ok (.getfield 363, 3) := by decide +kernel
theorem d_X11_copy_60 : decode cX11_copy 60 = .ok (.iconst 2, 1) := by decide +kernel
theorem d_X11_copy_61 : decode cX11_copy 61 = .ok (.if_icmp .ne 25, 3) := by decide +kernel
theorem d_X11_copy_64 : decode cX11_copy 64 = .ok (.aload 7, 2) := by decide +kernel
theorem d_X11_copy_66 : decode cX11_copy 66 = .ok (.getfield 363, 3) := by decide +kernel
theorem d_X11_copy_69 : decode cX11_copy 69 = .ok (.iconst 2, 1) := by decide +kernel
theorem d_X11_copy_70 : decode cX11_copy 70 = .ok (.if_icmp .ne 16, 3) := by decide +kernel
theorem d_X11_copy_73 : decode cX11_copy 73 = .ok (.aload 6, 2) := by decide +kernel
theorem d_X11_copy_75 : decode cX11_copy 75 = .ok (.getfield 366, 3) := by decide +kernel
theorem d_X11_copy_78 : decode cX11_copy 78 = .ok (.aload 7, 2) := by decide +kernel
theorem d_X11_copy_80 : decode cX11_copy 80 = .ok (.getfield 366, 3) := by decide +kernel
theorem d_X11_copy_83 : decode cX11_copy 83 = .ok (.if_icmp .eq 6, 3) := by decide +kernel
theorem d_X11_copy_86 : decode cX11_copy 86 = .ok (.bipush (-12), 2) := by decide +kernel
theorem d_X11_copy_88 : decode cX11_copy 88 = .ok (.ireturn, 1) := by decide +kernel
theorem d_X11_copy_89 : decode cX11_copy 89 = .ok (.iload 5, 2) := by decide +kernel
theorem d_X11_copy_91 : decode cX11_copy 91 = .ok (.ifCond .lt 26, 3) := by decide +kernel
theorem d_X11_copy_94 : decode cX11_copy 94 = .ok (.aload 6, 2) := by decide +kernel
theorem d_X11_copy_96 : decode cX11_copy 96 = .ok (.iload_n 2, 1) := by decide +kernel
theorem d_X11_copy_97 : decode cX11_copy 97 = .ok (.iload 5, 2) := by decide +kernel
theorem d_X11_copy_99 : decode cX11_copy 99 = .ok (.invokevirtual 369, 3) := by decide +kernel
theorem d_X11_copy_102 : decode cX11_copy 102 = .ok (.ifCond .eq 15, 3) := by decide +kernel
theorem d_X11_copy_105 : decode cX11_copy 105 = .ok (.aload 7, 2) := by decide +kernel
theorem d_X11_copy_107 : decode cX11_copy 107 = .ok (.iload 4, 2) := by decide +kernel
theorem d_X11_copy_109 : decode cX11_copy 109 = .ok (.iload 5, 2) := by decide +kernel
theorem d_X11_copy_111 : decode cX11_copy 111 = .ok (.invokevirtual 369, 3) := by decide +kernel
theorem d_X11_copy_114 : decode cX11_copy 114 = .ok (.ifCond .ne 6, 3) := by decide +kernel
theorem d_X11_copy_117 : decode cX11_copy 117 = .ok (.bipush (-13), 2) := by decide +kernel
theorem d_X11_copy_119 : decode cX11_copy 119 = .ok (.ireturn, 1) := by decide +kernel
theorem d_X11_copy_120 : decode cX11_copy 120 = .ok (.aload 6, 2) := by decide +kernel
theorem d_X11_copy_122 : decode cX11_copy 122 = .ok (.getfield 227, 3) := by decide +kernel
theorem d_X11_copy_125 : decode cX11_copy 125 = .ok (.iload_n 2, 1) := by decide +kernel
theorem d_X11_copy_126 : decode cX11_copy 126 = .ok (.aload 7, 2) := by decide +kernel
theorem d_X11_copy_128 : decode cX11_copy 128 = .ok (.getfield 227, 3) := by decide +kernel
theorem d_X11_copy_131 : decode cX11_copy 131 = .ok (.iload 4, 2) := by decide +kernel
theorem d_X11_copy_133 : decode cX11_copy 133 = .ok (.iload 5, 2) := by decide +kernel
theorem d_X11_copy_135 : decode cX11_copy 135 = .ok (.invokestatic 372, 3) := by decide +kernel
theorem d_X11_copy_138 : decode cX11_copy 138 = .ok (.iload 5, 2) := by decide +kernel
theorem d_X11_copy_140 : decode cX11_copy 140 = .ok (.ireturn, 1) := by decide +kernel
set_option maxHeartbeats 4000000 in
set_option maxRecDepth 100000 in
theorem t_X11_copy {X : XT_x} {G : GT_g} {M : Mem_m} {z : (Mem_m × Int)} (C : Cx_ (K_X11_copy) X G) (hR : Rx_ X G (some .int)) (x0 : Nat) (x1 : Int) (x2 : Int) (x3 : Int) (x4 : Int) (x5 : Int) (o_x1 : ok_i x1) (o_x2 : ok_i x2) (o_x3 : ok_i x3) (o_x4 : ok_i x4) (o_x5 : ok_i x5) (h : f_X11_copy G.2.2.2 M x0 x1 x2 x3 x4 x5 = some z) : V_ (K_X11_copy) X G (Fq_ X G (Qi_ G z.1 z.2)) M 0 [(0, .ref (G.1 + x0)), (1, iv_i x1), (2, iv_i x2), (3, iv_i x3), (4, iv_i x4), (5, iv_i x5)] [] := by
  unfold f_X11_copy at h
  refine V_iload_n (j := 1) C d_X11_copy_0 rfl rfl ?_
  refine V_bipush (v := 8) C d_X11_copy_1 rfl ?_
  refine V_callSri (K' := K_X11_isIn) (av := [iv_i x1, iv_i 8]) (rest := []) ys_X11_isIn C (yk_X11_isIn) l1_X11_61 (by decide) d_X11_copy_3 (fun v hv => ct_X11_isIn x1 8 o_x1 (okc rfl) hv) rfl rfl (Nat.le_of_ble_eq_true rfl) h (fun v1 o1 h => ?_)
  refine V_if_eq (tgt := 18) C d_X11_copy_6 (by decide) o1 h (fun h => ?_) (fun h => ?_)
  · skip
    refine V_iconst C d_X11_copy_18 ?_
    exact V_iret_w C hR d_X11_copy_19 (okc rfl) h
  · skip
    refine V_iload_n (j := 3) C d_X11_copy_9 rfl rfl ?_
    refine V_bipush (v := 8) C d_X11_copy_10 rfl ?_
    refine V_callSri (K' := K_X11_isIn) (av := [iv_i x3, iv_i 8]) (rest := []) ys_X11_isIn C (yk_X11_isIn) l1_X11_61 (by decide) d_X11_copy_12 (fun v hv => ct_X11_isIn x3 8 o_x3 (okc rfl) hv) rfl rfl (Nat.le_of_ble_eq_true rfl) h (fun v2 o2 h => ?_)
    refine V_if_ne (tgt := 20) C d_X11_copy_15 (by decide) o2 h (fun h => ?_) (fun h => ?_)
    · skip
      refine V_iconst C d_X11_copy_18 ?_
      exact V_iret_w C hR d_X11_copy_19 (okc rfl) h
    · skip
      refine V_aload_n (j := 0) C d_X11_copy_20 rfl rfl ?_
      refine V_getR C ck_11 fw_X11_21 d_X11_copy_21 h (fun v3 h => ?_)
      refine V_iload_n (j := 1) C d_X11_copy_24 rfl rfl ?_
      refine V_aald (t := 5) C tc_5 d_X11_copy_25 o_x1 h (fun v4 h => ?_)
      refine V_astore (lv' := [(6, .ref (G.1 + v4)), (0, .ref (G.1 + x0)), (1, iv_i x1), (2, iv_i x2), (3, iv_i x3), (4, iv_i x4), (5, iv_i x5)]) C d_X11_copy_26 (by decide) rfl ?_
      refine V_aload_n (j := 1) C d_X11_copy_28 rfl rfl ?_
      refine V_getR C ck_11 fw_X11_21 d_X11_copy_29 h (fun v5 h => ?_)
      refine V_iload_n (j := 4) C d_X11_copy_32 rfl rfl ?_
      refine V_aald (t := 5) C tc_5 d_X11_copy_33 o_x3 h (fun v6 h => ?_)
      refine V_astore (lv' := [(7, .ref (G.1 + v6)), (6, .ref (G.1 + v4)), (0, .ref (G.1 + x0)), (1, iv_i x1), (2, iv_i x2), (3, iv_i x3), (4, iv_i x4), (5, iv_i x5)]) C d_X11_copy_34 (by decide) rfl ?_
      refine V_aload (j := 1) C d_X11_copy_36 rfl ?_
      refine V_getI C ck_9 fw_X11_363 d_X11_copy_38 h (fun v7 o7 h => ?_)
      refine V_if_eq (tgt := 52) C d_X11_copy_41 (by decide) o7 h (fun h => ?_) (fun h => ?_)
      · skip
        refine V_bipush (v := (-11)) C d_X11_copy_52 rfl ?_
        exact V_iret_w C hR d_X11_copy_54 (okc rfl) h
      · skip
        refine V_aload (j := 0) C d_X11_copy_44 rfl ?_
        refine V_getI C ck_9 fw_X11_363 d_X11_copy_46 h (fun v8 o8 h => ?_)
        refine V_if_ne (tgt := 55) C d_X11_copy_49 (by decide) o8 h (fun h => ?_) (fun h => ?_)
        · skip
          refine V_bipush (v := (-11)) C d_X11_copy_52 rfl ?_
          exact V_iret_w C hR d_X11_copy_54 (okc rfl) h
        · skip
          refine V_aload (j := 1) C d_X11_copy_55 rfl ?_
          refine V_getI C ck_9 fw_X11_363 d_X11_copy_57 h (fun v9 o9 h => ?_)
          refine V_iconst C d_X11_copy_60 ?_
          refine V_icmp_ne (tgt := 86) C d_X11_copy_61 (by decide) o9 (okc rfl) h (fun h => ?_) (fun h => ?_)
          · skip
            refine V_aload (j := 0) C d_X11_copy_64 rfl ?_
            refine V_getI C ck_9 fw_X11_363 d_X11_copy_66 h (fun v10 o10 h => ?_)
            refine V_iconst C d_X11_copy_69 ?_
            refine V_icmp_ne (tgt := 86) C d_X11_copy_70 (by decide) o10 (okc rfl) h (fun h => ?_) (fun h => ?_)
            · skip
              refine V_aload (j := 1) C d_X11_copy_73 rfl ?_
              refine V_getI C ck_9 fw_X11_366 d_X11_copy_75 h (fun v11 o11 h => ?_)
              refine V_aload (j := 0) C d_X11_copy_78 rfl ?_
              refine V_getI C ck_9 fw_X11_366 d_X11_copy_80 h (fun v12 o12 h => ?_)
              refine V_icmp_eq (tgt := 89) C d_X11_copy_83 (by decide) o11 o12 h (fun h => ?_) (fun h => ?_)
              · skip
                refine V_iload (j := 7) C d_X11_copy_89 rfl ?_
                refine V_if_lt (tgt := 117) C d_X11_copy_91 (by decide) o_x5 h (fun h => ?_) (fun h => ?_)
                · skip
                  refine V_bipush (v := (-13)) C d_X11_copy_117 rfl ?_
                  exact V_iret_w C hR d_X11_copy_119 (okc rfl) h
                · skip
                  refine V_aload (j := 1) C d_X11_copy_94 rfl ?_
                  refine V_iload_n (j := 4) C d_X11_copy_96 rfl rfl ?_
                  refine V_iload (j := 7) C d_X11_copy_97 rfl ?_
                  refine V_callVri (K' := K_X9_hasPlaces) (a := v4) (ci := 9) (av := [iv_i x2, iv_i x5]) (rest := []) yi_X9_hasPlaces (by decide) rfl C (yk_X9_hasPlaces) l1_X11_369 (by decide) d_X11_copy_99 (fun v hv => ct_X9_hasPlaces v4 x2 x5 o_x2 o_x5 hv) rfl rfl (Nat.le_of_ble_eq_true rfl) h (fun v13 o13 h => ?_)
                  refine V_if_eq (tgt := 117) C d_X11_copy_102 (by decide) o13 h (fun h => ?_) (fun h => ?_)
                  · skip
                    refine V_bipush (v := (-13)) C d_X11_copy_117 rfl ?_
                    exact V_iret_w C hR d_X11_copy_119 (okc rfl) h
                  · skip
                    refine V_aload (j := 0) C d_X11_copy_105 rfl ?_
                    refine V_iload (j := 6) C d_X11_copy_107 rfl ?_
                    refine V_iload (j := 7) C d_X11_copy_109 rfl ?_
                    refine V_callVri (K' := K_X9_hasPlaces) (a := v6) (ci := 9) (av := [iv_i x4, iv_i x5]) (rest := []) yi_X9_hasPlaces (by decide) rfl C (yk_X9_hasPlaces) l1_X11_369 (by decide) d_X11_copy_111 (fun v hv => ct_X9_hasPlaces v6 x4 x5 o_x4 o_x5 hv) rfl rfl (Nat.le_of_ble_eq_true rfl) h (fun v14 o14 h => ?_)
                    refine V_if_ne (tgt := 120) C d_X11_copy_114 (by decide) o14 h (fun h => ?_) (fun h => ?_)
                    · skip
                      refine V_bipush (v := (-13)) C d_X11_copy_117 rfl ?_
                      exact V_iret_w C hR d_X11_copy_119 (okc rfl) h
                    · skip
                      refine V_aload (j := 1) C d_X11_copy_120 rfl ?_
                      refine V_getR C ck_9 fw_X11_227 d_X11_copy_122 h (fun v15 h => ?_)
                      refine V_iload_n (j := 4) C d_X11_copy_125 rfl rfl ?_
                      refine V_aload (j := 0) C d_X11_copy_126 rfl ?_
                      refine V_getR C ck_9 fw_X11_227 d_X11_copy_128 h (fun v16 h => ?_)
                      refine V_iload (j := 6) C d_X11_copy_131 rfl ?_
                      refine V_iload (j := 7) C d_X11_copy_133 rfl ?_
                      refine V_copy C l1_X11_372 ac_ok (by decide) (Nat.le_of_ble_eq_true rfl) d_X11_copy_135 o_x2 o_x4 o_x5 h (fun M17 h => ?_)
                      refine V_iload (j := 7) C d_X11_copy_138 rfl ?_
                      exact V_iret_w C hR d_X11_copy_140 o_x5 h
              · skip
                refine V_bipush (v := (-12)) C d_X11_copy_86 rfl ?_
                exact V_iret_w C hR d_X11_copy_88 (okc rfl) h
            · skip
              refine V_bipush (v := (-12)) C d_X11_copy_86 rfl ?_
              exact V_iret_w C hR d_X11_copy_88 (okc rfl) h
          · skip
            refine V_bipush (v := (-12)) C d_X11_copy_86 rfl ?_
            exact V_iret_w C hR d_X11_copy_88 (okc rfl) h
set_option maxHeartbeats 4000000 in
set_option maxRecDepth 100000 in
theorem ct_X11_copy {l : Launch} {G : GT_g} {M : Mem_m} (x0 : Nat) (x1 : Int) (x2 : Int) (x3 : Int) (x4 : Int) (x5 : Int) (o_x1 : ok_i x1) (o_x2 : ok_i x2) (o_x3 : ok_i x3) (o_x4 : ok_i x4) (o_x5 : ok_i x5) {z : (Mem_m × Int)} (h : f_X11_copy G.2.2.2 M x0 x1 x2 x3 x4 x5 = some z) : MI_ l yX11_copy K_X11_copy (some .int) G M [.ref (G.1 + x0), iv_i x1, iv_i x2, iv_i x3, iv_i x4, iv_i x5] z.1 z.2 :=
  met_of (by decide +kernel) rfl (Nat.le_of_ble_eq_true rfl) (fun X hl C hR => by subst hl; exact t_X11_copy C hR x0 x1 x2 x3 x4 x5 o_x1 o_x2 o_x3 o_x4 o_x5 h)
theorem d_X11_length_0 : decode cX11_length 0 = .ok (.iload_n 1, 1) := by decide +kernel
theorem d_X11_length_1 : decode cX11_length 1 = .ok (.bipush 8, 2) := by decide +kernel
theorem d_X11_length_3 : decode cX11_length 3 = .ok (.invokestatic 61, 3) := by decide +kernel
theorem d_X11_length_6 : decode cX11_length 6 = .ok (.ifCond .ne 5, 3) := by decide +kernel
theorem d_X11_length_9 : decode cX11_length 9 = .ok (.iconst (-1), 1) := by decide +kernel
theorem d_X11_length_10 : decode cX11_length 10 = .ok (.ireturn, 1) := by decide +kernel
theorem d_X11_length_11 : decode cX11_length 11 = .ok (.aload_n 0, 1) := by decide +kernel
theorem d_X11_length_12 : decode cX11_length 12 = .ok (.getfield 21, 3) := by decide +kernel
theorem d_X11_length_15 : decode cX11_length 15 = .ok (.iload_n 1, 1) := by decide +kernel
theorem d_X11_length_16 : decode cX11_length 16 = .ok (.aaload, 1) := by decide +kernel
theorem d_X11_length_17 : decode cX11_length 17 = .ok (.invokevirtual 378, 3) := by decide +kernel
theorem d_X11_length_20 : decode cX11_length 20 = .ok (.istore_n 2, 1) := by decide +kernel
theorem d_X11_length_21 : decode cX11_length 21 = .ok (.iload_n 2, 1) := by decide +kernel
theorem d_X11_length_22 : decode cX11_length 22 = .ok (.ifCond .eq 7, 3) := by decide +kernel
theorem d_X11_length_25 : decode cX11_length 25 = .ok (.iload_n 2, 1) := by decide +kernel
theorem d_X11_length_26 : decode cX11_length 26 = .ok (.goto 15, 3) := by decide +kernel
theorem d_X11_length_29 : decode cX11_length 29 = .ok (.aload_n 0, 1) := by decide +kernel
theorem d_X11_length_30 : decode cX11_length 30 = .ok (.getfield 21, 3) := by decide +kernel
theorem d_X11_length_33 : decode cX11_length 33 = .ok (.iload_n 1, 1) := by decide +kernel
theorem d_X11_length_34 : decode cX11_length 34 = .ok (.aaload, 1) := by decide +kernel
theorem d_X11_length_35 : decode cX11_length 35 = .ok (.getfield 381, 3) := by decide +kernel
theorem d_X11_length_38 : decode cX11_length 38 = .ok (.invokevirtual 150, 3) := by decide +kernel
theorem d_X11_length_41 : decode cX11_length 41 = .ok (.ireturn, 1) := by decide +kernel
set_option maxHeartbeats 4000000 in
set_option maxRecDepth 100000 in
theorem t_X11_length {X : XT_x} {G : GT_g} {M : Mem_m} {z : Int} (C : Cx_ (K_X11_length) X G) (hR : Rx_ X G (some .int)) (x0 : Nat) (x1 : Int) (o_x1 : ok_i x1) (h : f_X11_length G.2.2.2 M x0 x1 = some z) : V_ (K_X11_length) X G (Fq_ X G (Qi_ G M z)) M 0 [(0, .ref (G.1 + x0)), (1, iv_i x1)] [] := by
  unfold f_X11_length at h
  refine V_iload_n (j := 1) C d_X11_length_0 rfl rfl ?_
  refine V_bipush (v := 8) C d_X11_length_1 rfl ?_
  refine V_callSri (K' := K_X11_isIn) (av := [iv_i x1, iv_i 8]) (rest := []) ys_X11_isIn C (yk_X11_isIn) l1_X11_61 (by decide) d_X11_length_3 (fun v hv => ct_X11_isIn x1 8 o_x1 (okc rfl) hv) rfl rfl (Nat.le_of_ble_eq_true rfl) h (fun v1 o1 h => ?_)
  refine V_if_ne (tgt := 11) C d_X11_length_6 (by decide) o1 h (fun h => ?_) (fun h => ?_)
  · skip
    refine V_iconst C d_X11_length_9 ?_
    exact V_iret_r C hR d_X11_length_10 (okc rfl) h
  · skip
    refine V_aload_n (j := 0) C d_X11_length_11 rfl rfl ?_
    refine V_getR C ck_11 fw_X11_21 d_X11_length_12 h (fun v2 h => ?_)
    refine V_iload_n (j := 1) C d_X11_length_15 rfl rfl ?_
    refine V_aald (t := 5) C tc_5 d_X11_length_16 o_x1 h (fun v3 h => ?_)
    refine V_callVri (K' := K_X9_refusalOfNote) (a := v3) (ci := 9) (av := []) (rest := []) yi_X9_refusalOfNote (by decide) rfl C (yk_X9_refusalOfNote) l1_X11_378 (by decide) d_X11_length_17 (fun v hv => ct_X9_refusalOfNote v3 hv) rfl rfl (Nat.le_of_ble_eq_true rfl) h (fun v4 o4 h => ?_)
    refine V_istore_n (lv' := [(2, iv_i v4), (0, .ref (G.1 + x0)), (1, iv_i x1)]) C d_X11_length_20 rfl (by decide) rfl ?_
    refine V_iload_n (j := 0) C d_X11_length_21 rfl rfl ?_
    refine V_if_eq (tgt := 29) C d_X11_length_22 (by decide) o4 h (fun h => ?_) (fun h => ?_)
    · skip
      refine V_aload_n (j := 1) C d_X11_length_29 rfl rfl ?_
      refine V_getR C ck_11 fw_X11_21 d_X11_length_30 h (fun v5 h => ?_)
      refine V_iload_n (j := 2) C d_X11_length_33 rfl rfl ?_
      refine V_aald (t := 5) C tc_5 d_X11_length_34 o_x1 h (fun v6 h => ?_)
      refine V_getR C ck_9 fw_X11_381 d_X11_length_35 h (fun v7 h => ?_)
      refine V_callVri (K' := K_X5_lengthTold) (a := v7) (ci := 5) (av := []) (rest := []) yi_X5_lengthTold (by decide) rfl C (yk_X5_lengthTold) l1_X11_150 (by decide) d_X11_length_38 (fun v hv => ct_X5_lengthTold v7 hv) rfl rfl (Nat.le_of_ble_eq_true rfl) h (fun v8 o8 h => ?_)
      exact V_iret_r C hR d_X11_length_41 o8 h
    · skip
      refine V_iload_n (j := 0) C d_X11_length_25 rfl rfl ?_
      refine V_goto (tgt := 41) C d_X11_length_26 (by decide) ?_
      exact V_iret_r C hR d_X11_length_41 o4 h
set_option maxHeartbeats 4000000 in
set_option maxRecDepth 100000 in
theorem ct_X11_length {l : Launch} {G : GT_g} {M : Mem_m} (x0 : Nat) (x1 : Int) (o_x1 : ok_i x1) {z : Int} (h : f_X11_length G.2.2.2 M x0 x1 = some z) : MI_ l yX11_length K_X11_length (some .int) G M [.ref (G.1 + x0), iv_i x1] M z :=
  met_of (by decide +kernel) rfl (Nat.le_of_ble_eq_true rfl) (fun X hl C hR => by subst hl; exact t_X11_length C hR x0 x1 o_x1 h)
theorem d_X11_toss_0 : decode cX11_toss 0 = .ok (.iload_n 1, 1) := by decide +kernel
theorem d_X11_toss_1 : decode cX11_toss 1 = .ok (.bipush 8, 2) := by decide +kernel
theorem d_X11_toss_3 : decode cX11_toss 3 = .ok (.invokestatic 61, 3) := by decide +kernel
theorem d_X11_toss_6 : decode cX11_toss 6 = .ok (.ifCond .ne 5, 3) := by decide +kernel
theorem d_X11_toss_9 : decode cX11_toss 9 = .ok (.iconst (-1), 1) := by decide +kernel
theorem d_X11_toss_10 : decode cX11_toss 10 = .ok (.ireturn, 1) := by decide +kernel
theorem d_X11_toss_11 : decode cX11_toss 11 = .ok (.aload_n 0, 1) := by decide +kernel
theorem d_X11_toss_12 : decode cX11_toss 12 = .ok (.getfield 21, 3) := by decide +kernel
theorem d_X11_toss_15 : decode cX11_toss 15 = .ok (.iload_n 1, 1) := by decide +kernel
theorem d_X11_toss_16 : decode cX11_toss 16 = .ok (.aaload, 1) := by decide +kernel
theorem d_X11_toss_17 : decode cX11_toss 17 = .ok (.invokevirtual 378, 3) := by decide +kernel
theorem d_X11_toss_20 : decode cX11_toss 20 = .ok (.istore_n 2, 1) := by decide +kernel
theorem d_X11_toss_21 : decode cX11_toss 21 = .ok (.iload_n 2, 1) := by decide +kernel
theorem d_X11_toss_22 : decode cX11_toss 22 = .ok (.ifCond .eq 7, 3) := by decide +kernel
theorem d_X11_toss_25 : decode cX11_toss 25 = .ok (.iload_n 2, 1) := by decide +kernel
theorem d_X11_toss_26 : decode cX11_toss 26 = .ok (.goto 15, 3) := by decide +kernel
theorem d_X11_toss_29 : decode cX11_toss 29 = .ok (.aload_n 0, 1) := by decide +kernel
theorem d_X11_toss_30 : decode cX11_toss 30 = .ok (.getfield 21, 3) := by decide +kernel
theorem d_X11_toss_33 : decode cX11_toss 33 = .ok (.iload_n 1, 1) := by decide +kernel
theorem d_X11_toss_34 : decode cX11_toss 34 = .ok (.aaload, 1) := by decide +kernel
theorem d_X11_toss_35 : decode cX11_toss 35 = .ok (.getfield 381, 3) := by decide +kernel
theorem d_X11_toss_38 : decode cX11_toss 38 = .ok (.invokevirtual 385, 3) := by decide +kernel
theorem d_X11_toss_41 : decode cX11_toss 41 = .ok (.ireturn, 1) := by decide +kernel
set_option maxHeartbeats 4000000 in
set_option maxRecDepth 100000 in
theorem t_X11_toss {X : XT_x} {G : GT_g} {M : Mem_m} {z : Int} (C : Cx_ (K_X11_toss) X G) (hR : Rx_ X G (some .int)) (x0 : Nat) (x1 : Int) (o_x1 : ok_i x1) (h : f_X11_toss G.2.2.2 M x0 x1 = some z) : V_ (K_X11_toss) X G (Fq_ X G (Qi_ G M z)) M 0 [(0, .ref (G.1 + x0)), (1, iv_i x1)] [] := by
  unfold f_X11_toss at h
  refine V_iload_n (j := 1) C d_X11_toss_0 rfl rfl ?_
  refine V_bipush (v := 8) C d_X11_toss_1 rfl ?_
  refine V_callSri (K' := K_X11_isIn) (av := [iv_i x1, iv_i 8]) (rest := []) ys_X11_isIn C (yk_X11_isIn) l1_X11_61 (by decide) d_X11_toss_3 (fun v hv => ct_X11_isIn x1 8 o_x1 (okc rfl) hv) rfl rfl (Nat.le_of_ble_eq_true rfl) h (fun v1 o1 h => ?_)
  refine V_if_ne (tgt := 11) C d_X11_toss_6 (by decide) o1 h (fun h => ?_) (fun h => ?_)
  · skip
    refine V_iconst C d_X11_toss_9 ?_
    exact V_iret_r C hR d_X11_toss_10 (okc rfl) h
  · skip
    refine V_aload_n (j := 0) C d_X11_toss_11 rfl rfl ?_
    refine V_getR C ck_11 fw_X11_21 d_X11_toss_12 h (fun v2 h => ?_)
    refine V_iload_n (j := 1) C d_X11_toss_15 rfl rfl ?_
    refine V_aald (t := 5) C tc_5 d_X11_toss_16 o_x1 h (fun v3 h => ?_)
    refine V_callVri (K' := K_X9_refusalOfNote) (a := v3) (ci := 9) (av := []) (rest := []) yi_X9_refusalOfNote (by decide) rfl C (yk_X9_refusalOfNote) l1_X11_378 (by decide) d_X11_toss_17 (fun v hv => ct_X9_refusalOfNote v3 hv) rfl rfl (Nat.le_of_ble_eq_true rfl) h (fun v4 o4 h => ?_)
    refine V_istore_n (lv' := [(2, iv_i v4), (0, .ref (G.1 + x0)), (1, iv_i x1)]) C d_X11_toss_20 rfl (by decide) rfl ?_
    refine V_iload_n (j := 0) C d_X11_toss_21 rfl rfl ?_
    refine V_if_eq (tgt := 29) C d_X11_toss_22 (by decide) o4 h (fun h => ?_) (fun h => ?_)
    · skip
      refine V_aload_n (j := 1) C d_X11_toss_29 rfl rfl ?_
      refine V_getR C ck_11 fw_X11_21 d_X11_toss_30 h (fun v5 h => ?_)
      refine V_iload_n (j := 2) C d_X11_toss_33 rfl rfl ?_
      refine V_aald (t := 5) C tc_5 d_X11_toss_34 o_x1 h (fun v6 h => ?_)
      refine V_getR C ck_9 fw_X11_381 d_X11_toss_35 h (fun v7 h => ?_)
      refine V_callVri (K' := K_X5_failure) (a := v7) (ci := 5) (av := []) (rest := []) yi_X5_failure (by decide) rfl C (yk_X5_failure) l1_X11_385 (by decide) d_X11_toss_38 (fun v hv => ct_X5_failure v7 hv) rfl rfl (Nat.le_of_ble_eq_true rfl) h (fun v8 o8 h => ?_)
      exact V_iret_r C hR d_X11_toss_41 o8 h
    · skip
      refine V_iload_n (j := 0) C d_X11_toss_25 rfl rfl ?_
      refine V_goto (tgt := 41) C d_X11_toss_26 (by decide) ?_
      exact V_iret_r C hR d_X11_toss_41 o4 h
set_option maxHeartbeats 4000000 in
set_option maxRecDepth 100000 in
theorem ct_X11_toss {l : Launch} {G : GT_g} {M : Mem_m} (x0 : Nat) (x1 : Int) (o_x1 : ok_i x1) {z : Int} (h : f_X11_toss G.2.2.2 M x0 x1 = some z) : MI_ l yX11_toss K_X11_toss (some .int) G M [.ref (G.1 + x0), iv_i x1] M z :=
  met_of (by decide +kernel) rfl (Nat.le_of_ble_eq_true rfl) (fun X hl C hR => by subst hl; exact t_X11_toss C hR x0 x1 o_x1 h)
theorem d_X12_thrown_0 : decode cX12_thrown 0 = .ok (.aload_n 0, 1) := by decide +kernel
theorem d_X12_thrown_1 : decode cX12_thrown 1 = .ok (.getfield 65, 3) := by decide +kernel
theorem d_X12_thrown_4 : decode cX12_thrown 4 = .ok (.ireturn, 1) := by decide +kernel
set_option maxHeartbeats 4000000 in
set_option maxRecDepth 100000 in
theorem t_X12_thrown {X : XT_x} {G : GT_g} {M : Mem_m} {z : Int} (C : Cx_ (K_X12_thrown) X G) (hR : Rx_ X G (some .int)) (x0 : Nat)  (h : f_X12_thrown G.2.2.2 M x0 = some z) : V_ (K_X12_thrown) X G (Fq_ X G (Qi_ G M z)) M 0 [(0, .ref (G.1 + x0))] [] := by
  unfold f_X12_thrown at h
  refine V_aload_n (j := 0) C d_X12_thrown_0 rfl rfl ?_
  refine V_getI C ck_12 fw_X12_65 d_X12_thrown_1 h (fun v1 o1 h => ?_)
  exact V_iret_r C hR d_X12_thrown_4 o1 h
set_option maxHeartbeats 4000000 in
set_option maxRecDepth 100000 in
theorem ct_X12_thrown {l : Launch} {G : GT_g} {M : Mem_m} (x0 : Nat)  {z : Int} (h : f_X12_thrown G.2.2.2 M x0 = some z) : MI_ l yX12_thrown K_X12_thrown (some .int) G M [.ref (G.1 + x0)] M z :=
  met_of (by decide +kernel) rfl (Nat.le_of_ble_eq_true rfl) (fun X hl C hR => by subst hl; exact t_X12_thrown C hR x0  h)
theorem d_X12_isIn_0 : decode cX12_isIn 0 = .ok (.lload_n 0, 1) := by decide +kernel
theorem d_X12_isIn_1 : decode cX12_isIn 1 = .ok (.lload_n 2, 1) := by decide +kernel
theorem d_X12_isIn_2 : decode cX12_isIn 2 = .ok (.lcmp, 1) := by decide +kernel
theorem d_X12_isIn_3 : decode cX12_isIn 3 = .ok (.ifCond .lt 14, 3) := by decide +kernel
theorem d_X12_isIn_6 : decode cX12_isIn 6 = .ok (.lload_n 0, 1) := by decide +kernel
theorem d_X12_isIn_7 : decode cX12_isIn 7 = .ok (.lload 4, 2) := by decide +kernel
theorem d_X12_isIn_9 : decode cX12_isIn 9 = .ok (.lcmp, 1) := by decide +kernel
theorem d_X12_isIn_10 : decode cX12_isIn 10 = .ok (.ifCond .gt 7, 3) := by decide +kernel
theorem d_X12_isIn_13 : decode cX12_isIn 13 = .ok (.iconst 1, 1) := by decide +kernel
theorem d_X12_isIn_14 : decode cX12_isIn 14 = .ok (.goto 4, 3) := by decide +kernel
theorem d_X12_isIn_17 : decode cX12_isIn 17 = .ok (.iconst 0, 1) := by decide +kernel
theorem d_X12_isIn_18 : decode cX12_isIn 18 = .ok (.ireturn, 1) := by decide +kernel
set_option maxHeartbeats 4000000 in
set_option maxRecDepth 100000 in
theorem t_X12_isIn {X : XT_x} {G : GT_g} {M : Mem_m} {z : Int} (C : Cx_ (K_X12_isIn) X G) (hR : Rx_ X G (some .boolean)) (x0 : Int) (x2 : Int) (x4 : Int) (o_x0 : ok_i x0) (o_x2 : ok_i x2) (o_x4 : ok_i x4) (h : f_X12_isIn G.2.2.2 M x0 x2 x4 = some z) : V_ (K_X12_isIn) X G (Fq_ X G (Qi_ G M z)) M 0 [(0, jv_i x0), (2, jv_i x2), (4, jv_i x4)] [] := by
  unfold f_X12_isIn at h
  refine V_lload_n (j := 0) C d_X12_isIn_0 rfl rfl ?_
  refine V_lload_n (j := 1) C d_X12_isIn_1 rfl rfl ?_
  refine V_lcmp C d_X12_isIn_2 o_x0 o_x2 ?_
  refine V_if_lt (tgt := 17) C d_X12_isIn_3 (by decide) (ok_lg _ _) h (fun h => ?_) (fun h => ?_)
  · skip
    refine V_iconst C d_X12_isIn_17 ?_
    exact V_zret_r C hR d_X12_isIn_18 (Or.inl rfl) h
  · skip
    refine V_lload_n (j := 0) C d_X12_isIn_6 rfl rfl ?_
    refine V_lload (j := 2) C d_X12_isIn_7 rfl ?_
    refine V_lcmp C d_X12_isIn_9 o_x0 o_x4 ?_
    refine V_if_gt (tgt := 17) C d_X12_isIn_10 (by decide) (ok_lg _ _) h (fun h => ?_) (fun h => ?_)
    · skip
      refine V_iconst C d_X12_isIn_13 ?_
      refine V_goto (tgt := 18) C d_X12_isIn_14 (by decide) ?_
      exact V_zret_r C hR d_X12_isIn_18 (Or.inr rfl) h
    · skip
      refine V_iconst C d_X12_isIn_17 ?_
      exact V_zret_r C hR d_X12_isIn_18 (Or.inl rfl) h
set_option maxHeartbeats 4000000 in
set_option maxRecDepth 100000 in
theorem ct_X12_isIn {l : Launch} {G : GT_g} {M : Mem_m} (x0 : Int) (x2 : Int) (x4 : Int) (o_x0 : ok_i x0) (o_x2 : ok_i x2) (o_x4 : ok_i x4) {z : Int} (h : f_X12_isIn G.2.2.2 M x0 x2 x4 = some z) : MI_ l yX12_isIn K_X12_isIn (some .boolean) G M [jv_i x0, jv_i x2, jv_i x4] M z :=
  met_of (by decide +kernel) rfl (Nat.le_of_ble_eq_true rfl) (fun X hl C hR => by subst hl; exact t_X12_isIn C hR x0 x2 x4 o_x0 o_x2 o_x4 h)
theorem d_X12_isCard_0 : decode cX12_isCard 0 = .ok (.iload_n 1, 1) := by decide +kernel
theorem d_X12_isCard_1 : decode cX12_isCard 1 = .ok (.i2l, 1) := by decide +kernel
theorem d_X12_isCard_2 : decode cX12_isCard 2 = .ok (.lconst 0, 1) := by decide +kernel
theorem d_X12_isCard_3 : decode cX12_isCard 3 = .ok (.aload_n 0, 1) := by decide +kernel
theorem d_X12_isCard_4 : decode cX12_isCard 4 = .ok (.getfield 9, 3) := by decide +kernel
theorem d_X12_isCard_7 : decode cX12_isCard 7 = .ok (.sipush 1062, 3) := by decide +kernel
theorem d_X12_isCard_10 : decode cX12_isCard 10 = .ok (.iaload, 1) := by decide +kernel
theorem d_X12_isCard_11 : decode cX12_isCard 11 = .ok (.iconst 1, 1) := by decide +kernel
theorem d_X12_isCard_12 : decode cX12_isCard 12 = .ok (.isub, 1) := by decide +kernel
theorem d_X12_isCard_13 : decode cX12_isCard 13 = .ok (.i2l, 1) := by decide +kernel
theorem d_X12_isCard_14 : decode cX12_isCard 14 = .ok (.invokestatic 69, 3) := by decide +kernel
theorem d_X12_isCard_17 : decode cX12_isCard 17 = .ok (.ireturn, 1) := by decide +kernel
set_option maxHeartbeats 4000000 in
set_option maxRecDepth 100000 in
theorem t_X12_isCard {X : XT_x} {G : GT_g} {M : Mem_m} {z : Int} (C : Cx_ (K_X12_isCard) X G) (hR : Rx_ X G (some .boolean)) (x0 : Nat) (x1 : Int) (o_x1 : ok_i x1) (h : f_X12_isCard G.2.2.2 M x0 x1 = some z) : V_ (K_X12_isCard) X G (Fq_ X G (Qi_ G M z)) M 0 [(0, .ref (G.1 + x0)), (1, iv_i x1)] [] := by
  unfold f_X12_isCard at h
  refine V_iload_n (j := 1) C d_X12_isCard_0 rfl rfl ?_
  refine V_i2l C d_X12_isCard_1 o_x1 ?_
  refine V_lconst0 C d_X12_isCard_2 ?_
  refine V_aload_n (j := 0) C d_X12_isCard_3 rfl rfl ?_
  refine V_getR C ck_12 fw_X12_9 d_X12_isCard_4 h (fun v1 h => ?_)
  refine V_sipush (v := 1062) C d_X12_isCard_7 rfl ?_
  refine V_iald C d_X12_isCard_10 (okc rfl) h (fun v2 o2 h => ?_)
  refine V_iconst C d_X12_isCard_11 ?_
  refine V_isub C d_X12_isCard_12 ?_
  refine V_i2l C d_X12_isCard_13 (ok_wr _) ?_
  refine V_callSri (K' := K_X12_isIn) (av := [jv_i x1, jv_i 0, jv_i (wr_i (v2 - 1))]) (rest := []) ys_X12_isIn C (yk_X12_isIn) l1_X12_69 (by decide) d_X12_isCard_14 (fun v hv => ct_X12_isIn x1 0 (wr_i (v2 - 1)) o_x1 (okc rfl) (ok_wr _) hv) rfl rfl (Nat.le_of_ble_eq_true rfl) h (fun v3 o3 h => ?_)
  obtain ⟨hz, h⟩ := ite_z h
  exact V_zret_r C hR d_X12_isCard_17 hz h
set_option maxHeartbeats 4000000 in
set_option maxRecDepth 100000 in
theorem ct_X12_isCard {l : Launch} {G : GT_g} {M : Mem_m} (x0 : Nat) (x1 : Int) (o_x1 : ok_i x1) {z : Int} (h : f_X12_isCard G.2.2.2 M x0 x1 = some z) : MI_ l yX12_isCard K_X12_isCard (some .boolean) G M [.ref (G.1 + x0), iv_i x1] M z :=
  met_of (by decide +kernel) rfl (Nat.le_of_ble_eq_true rfl) (fun X hl C hR => by subst hl; exact t_X12_isCard C hR x0 x1 o_x1 h)
theorem d_X12_isNote_0 : decode cX12_isNote 0 = .ok (.iload_n 1, 1) := by decide +kernel
theorem d_X12_isNote_1 : decode cX12_isNote 1 = .ok (.i2l, 1) := by decide +kernel
theorem d_X12_isNote_2 : decode cX12_isNote 2 = .ok (.lconst 0, 1) := by decide +kernel
theorem d_X12_isNote_3 : decode cX12_isNote 3 = .ok (.aload_n 0, 1) := by decide +kernel
theorem d_X12_isNote_4 : decode cX12_isNote 4 = .ok (.getfield 9, 3) := by decide +kernel
theorem d_X12_isNote_7 : decode cX12_isNote 7 = .ok (.sipush 1063, 3) := by decide +kernel
theorem d_X12_isNote_10 : decode cX12_isNote 10 = .ok (.iaload, 1) := by decide +kernel
theorem d_X12_isNote_11 : decode cX12_isNote 11 = .ok (.iconst 1, 1) := by decide +kernel
theorem d_X12_isNote_12 : decode cX12_isNote 12 = .ok (.isub, 1) := by decide +kernel
theorem d_X12_isNote_13 : decode cX12_isNote 13 = .ok (.i2l, 1) := by decide +kernel
theorem d_X12_isNote_14 : decode cX12_isNote 14 = .ok (.invokestatic 69, 3) := by decide +kernel
theorem d_X12_isNote_17 : decode cX12_isNote 17 = .ok (.ireturn, 1) := by decide +kernel
set_option maxHeartbeats 4000000 in
set_option maxRecDepth 100000 in
theorem t_X12_isNote {X : XT_x} {G : GT_g} {M : Mem_m} {z : Int} (C : Cx_ (K_X12_isNote) X G) (hR : Rx_ X G (some .boolean)) (x0 : Nat) (x1 : Int) (o_x1 : ok_i x1) (h : f_X12_isNote G.2.2.2 M x0 x1 = some z) : V_ (K_X12_isNote) X G (Fq_ X G (Qi_ G M z)) M 0 [(0, .ref (G.1 + x0)), (1, iv_i x1)] [] := by
  unfold f_X12_isNote at h
  refine V_iload_n (j := 1) C d_X12_isNote_0 rfl rfl ?_
  refine V_i2l C d_X12_isNote_1 o_x1 ?_
  refine V_lconst0 C d_X12_isNote_2 ?_
  refine V_aload_n (j := 0) C d_X12_isNote_3 rfl rfl ?_
  refine V_getR C ck_12 fw_X12_9 d_X12_isNote_4 h (fun v1 h => ?_)
  refine V_sipush (v := 1063) C d_X12_isNote_7 rfl ?_
  refine V_iald C d_X12_isNote_10 (okc rfl) h (fun v2 o2 h => ?_)
  refine V_iconst C d_X12_isNote_11 ?_
  refine V_isub C d_X12_isNote_12 ?_
  refine V_i2l C d_X12_isNote_13 (ok_wr _) ?_
  refine V_callSri (K' := K_X12_isIn) (av := [jv_i x1, jv_i 0, jv_i (wr_i (v2 - 1))]) (rest := []) ys_X12_isIn C (yk_X12_isIn) l1_X12_69 (by decide) d_X12_isNote_14 (fun v hv => ct_X12_isIn x1 0 (wr_i (v2 - 1)) o_x1 (okc rfl) (ok_wr _) hv) rfl rfl (Nat.le_of_ble_eq_true rfl) h (fun v3 o3 h => ?_)
  obtain ⟨hz, h⟩ := ite_z h
  exact V_zret_r C hR d_X12_isNote_17 hz h
set_option maxHeartbeats 4000000 in
set_option maxRecDepth 100000 in
theorem ct_X12_isNote {l : Launch} {G : GT_g} {M : Mem_m} (x0 : Nat) (x1 : Int) (o_x1 : ok_i x1) {z : Int} (h : f_X12_isNote G.2.2.2 M x0 x1 = some z) : MI_ l yX12_isNote K_X12_isNote (some .boolean) G M [.ref (G.1 + x0), iv_i x1] M z :=
  met_of (by decide +kernel) rfl (Nat.le_of_ble_eq_true rfl) (fun X hl C hR => by subst hl; exact t_X12_isNote C hR x0 x1 o_x1 h)
theorem d_X12_isShelf_0 : decode cX12_isShelf 0 = .ok (.iload_n 0, 1) := by decide +kernel
theorem d_X12_isShelf_1 : decode cX12_isShelf 1 = .ok (.i2l, 1) := by decide +kernel
theorem d_X12_isShelf_2 : decode cX12_isShelf 2 = .ok (.lconst 0, 1) := by decide +kernel
theorem d_X12_isShelf_3 : decode cX12_isShelf 3 = .ok (.ldc2_w 73, 3) := by decide +kernel
theorem d_X12_isShelf_6 : decode cX12_isShelf 6 = .ok (.invokestatic 69, 3) := by decide +kernel
theorem d_X12_isShelf_9 : decode cX12_isShelf 9 = .ok (.ireturn, 1) := by decide +kernel
set_option maxHeartbeats 4000000 in
set_option maxRecDepth 100000 in
theorem t_X12_isShelf {X : XT_x} {G : GT_g} {M : Mem_m} {z : Int} (C : Cx_ (K_X12_isShelf) X G) (hR : Rx_ X G (some .boolean)) (x0 : Int) (o_x0 : ok_i x0) (h : f_X12_isShelf G.2.2.2 M x0 = some z) : V_ (K_X12_isShelf) X G (Fq_ X G (Qi_ G M z)) M 0 [(0, iv_i x0)] [] := by
  unfold f_X12_isShelf at h
  refine V_iload_n (j := 0) C d_X12_isShelf_0 rfl rfl ?_
  refine V_i2l C d_X12_isShelf_1 o_x0 ?_
  refine V_lconst0 C d_X12_isShelf_2 ?_
  refine V_ldc2 (v := 7) C d_X12_isShelf_3 cl_X12_73 ?_
  refine V_callSri (K' := K_X12_isIn) (av := [jv_i x0, jv_i 0, jv_i 7]) (rest := []) ys_X12_isIn C (yk_X12_isIn) l1_X12_69 (by decide) d_X12_isShelf_6 (fun v hv => ct_X12_isIn x0 0 7 o_x0 (okc rfl) (okc rfl) hv) rfl rfl (Nat.le_of_ble_eq_true rfl) h (fun v1 o1 h => ?_)
  obtain ⟨hz, h⟩ := ite_z h
  exact V_zret_r C hR d_X12_isShelf_9 hz h
set_option maxHeartbeats 4000000 in
set_option maxRecDepth 100000 in
theorem ct_X12_isShelf {l : Launch} {G : GT_g} {M : Mem_m} (x0 : Int) (o_x0 : ok_i x0) {z : Int} (h : f_X12_isShelf G.2.2.2 M x0 = some z) : MI_ l yX12_isShelf K_X12_isShelf (some .boolean) G M [iv_i x0] M z :=
  met_of (by decide +kernel) rfl (Nat.le_of_ble_eq_true rfl) (fun X hl C hR => by subst hl; exact t_X12_isShelf C hR x0 o_x0 h)
theorem d_X12_of_0 : decode cX12_of 0 = .ok (.aload_n 0, 1) := by decide +kernel
theorem d_X12_of_1 : decode cX12_of 1 = .ok (.getfield 9, 3) := by decide +kernel
theorem d_X12_of_4 : decode cX12_of 4 = .ok (.bipush 15, 2) := by decide +kernel
theorem d_X12_of_6 : decode cX12_of 6 = .ok (.iload_n 1, 1) := by decide +kernel
theorem d_X12_of_7 : decode cX12_of 7 = .ok (.imul, 1) := by decide +kernel
theorem d_X12_of_8 : decode cX12_of 8 = .ok (.iload_n 2, 1) := by decide +kernel
theorem d_X12_of_9 : decode cX12_of 9 = .ok (.iadd, 1) := by decide +kernel
theorem d_X12_of_10 : decode cX12_of 10 = .ok (.iaload, 1) := by decide +kernel
theorem d_X12_of_11 : decode cX12_of 11 = .ok (.ireturn, 1) := by decide +kernel
set_option maxHeartbeats 4000000 in
set_option maxRecDepth 100000 in
theorem t_X12_of {X : XT_x} {G : GT_g} {M : Mem_m} {z : Int} (C : Cx_ (K_X12_of) X G) (hR : Rx_ X G (some .int)) (x0 : Nat) (x1 : Int) (x2 : Int) (o_x1 : ok_i x1) (o_x2 : ok_i x2) (h : f_X12_of G.2.2.2 M x0 x1 x2 = some z) : V_ (K_X12_of) X G (Fq_ X G (Qi_ G M z)) M 0 [(0, .ref (G.1 + x0)), (1, iv_i x1), (2, iv_i x2)] [] := by
  unfold f_X12_of at h
  refine V_aload_n (j := 0) C d_X12_of_0 rfl rfl ?_
  refine V_getR C ck_12 fw_X12_9 d_X12_of_1 h (fun v1 h => ?_)
  refine V_bipush (v := 15) C d_X12_of_4 rfl ?_
  refine V_iload_n (j := 1) C d_X12_of_6 rfl rfl ?_
  refine V_imul C d_X12_of_7 ?_
  refine V_iload_n (j := 2) C d_X12_of_8 rfl rfl ?_
  refine V_iadd C d_X12_of_9 ?_
  refine V_iald C d_X12_of_10 (ok_wr _) h (fun v2 o2 h => ?_)
  exact V_iret_r C hR d_X12_of_11 o2 h
set_option maxHeartbeats 4000000 in
set_option maxRecDepth 100000 in
theorem ct_X12_of {l : Launch} {G : GT_g} {M : Mem_m} (x0 : Nat) (x1 : Int) (x2 : Int) (o_x1 : ok_i x1) (o_x2 : ok_i x2) {z : Int} (h : f_X12_of G.2.2.2 M x0 x1 x2 = some z) : MI_ l yX12_of K_X12_of (some .int) G M [.ref (G.1 + x0), iv_i x1, iv_i x2] M z :=
  met_of (by decide +kernel) rfl (Nat.le_of_ble_eq_true rfl) (fun X hl C hR => by subst hl; exact t_X12_of C hR x0 x1 x2 o_x1 o_x2 h)
theorem d_X12_noteOf_0 : decode cX12_noteOf 0 = .ok (.aload_n 0, 1) := by decide +kernel
theorem d_X12_noteOf_1 : decode cX12_noteOf 1 = .ok (.getfield 9, 3) := by decide +kernel
theorem d_X12_noteOf_4 : decode cX12_noteOf 4 = .ok (.sipush 600, 3) := by decide +kernel
theorem d_X12_noteOf_7 : decode cX12_noteOf 7 = .ok (.bipush 7, 2) := by decide +kernel
theorem d_X12_noteOf_9 : decode cX12_noteOf 9 = .ok (.iload_n 1, 1) := by decide +kernel
theorem d_X12_noteOf_10 : decode cX12_noteOf 10 = .ok (.imul, 1) := by decide +kernel
theorem d_X12_noteOf_11 : decode cX12_noteOf 11 = .ok (.iadd, 1) := by decide +kernel
theorem d_X12_noteOf_12 : decode cX12_noteOf 12 = .ok (.iload_n 2, 1) := by decide +kernel
theorem d_X12_noteOf_13 : decode cX12_noteOf 13 = .ok (.iadd, 1) := by decide +kernel
theorem d_X12_noteOf_14 : decode cX12_noteOf 14 = .ok (.iaload, 1) := by decide +kernel
theorem d_X12_noteOf_15 : decode cX12_noteOf 15 = .ok (.ireturn, 1) := by decide +kernel
set_option maxHeartbeats 4000000 in
set_option maxRecDepth 100000 in
theorem t_X12_noteOf {X : XT_x} {G : GT_g} {M : Mem_m} {z : Int} (C : Cx_ (K_X12_noteOf) X G) (hR : Rx_ X G (some .int)) (x0 : Nat) (x1 : Int) (x2 : Int) (o_x1 : ok_i x1) (o_x2 : ok_i x2) (h : f_X12_noteOf G.2.2.2 M x0 x1 x2 = some z) : V_ (K_X12_noteOf) X G (Fq_ X G (Qi_ G M z)) M 0 [(0, .ref (G.1 + x0)), (1, iv_i x1), (2, iv_i x2)] [] := by
  unfold f_X12_noteOf at h
  refine V_aload_n (j := 0) C d_X12_noteOf_0 rfl rfl ?_
  refine V_getR C ck_12 fw_X12_9 d_X12_noteOf_1 h (fun v1 h => ?_)
  refine V_sipush (v := 600) C d_X12_noteOf_4 rfl ?_
  refine V_bipush (v := 7) C d_X12_noteOf_7 rfl ?_
  refine V_iload_n (j := 1) C d_X12_noteOf_9 rfl rfl ?_
  refine V_imul C d_X12_noteOf_10 ?_
  refine V_iadd C d_X12_noteOf_11 ?_
  refine V_iload_n (j := 2) C d_X12_noteOf_12 rfl rfl ?_
  refine V_iadd C d_X12_noteOf_13 ?_
  refine V_iald C d_X12_noteOf_14 (ok_wr _) h (fun v2 o2 h => ?_)
  exact V_iret_r C hR d_X12_noteOf_15 o2 h
set_option maxHeartbeats 4000000 in
set_option maxRecDepth 100000 in
theorem ct_X12_noteOf {l : Launch} {G : GT_g} {M : Mem_m} (x0 : Nat) (x1 : Int) (x2 : Int) (o_x1 : ok_i x1) (o_x2 : ok_i x2) {z : Int} (h : f_X12_noteOf G.2.2.2 M x0 x1 x2 = some z) : MI_ l yX12_noteOf K_X12_noteOf (some .int) G M [.ref (G.1 + x0), iv_i x1, iv_i x2] M z :=
  met_of (by decide +kernel) rfl (Nat.le_of_ble_eq_true rfl) (fun X hl C hR => by subst hl; exact t_X12_noteOf C hR x0 x1 x2 o_x1 o_x2 h)
theorem d_X12_becomes_0 : decode cX12_becomes 0 = .ok (.aload_n 0, 1) := by decide +kernel
theorem d_X12_becomes_1 : decode cX12_becomes 1 = .ok (.getfield 9, 3) := by decide +kernel
theorem d_X12_becomes_4 : decode cX12_becomes 4 = .ok (.iload_n 1, 1) := by decide +kernel
theorem d_X12_becomes_5 : decode cX12_becomes 5 = .ok (.iaload, 1) := by decide +kernel
theorem d_X12_becomes_6 : decode cX12_becomes 6 = .ok (.istore_n 3, 1) := by decide +kernel
theorem d_X12_becomes_7 : decode cX12_becomes 7 = .ok (.aload_n 0, 1) := by decide +kernel
theorem d_X12_becomes_8 : decode cX12_becomes 8 = .ok (.getfield 9, 3) := by decide +kernel
theorem d_X12_becomes_11 : decode cX12_becomes 11 = .ok (.iload_n 1, 1) := by decide +kernel
theorem d_X12_becomes_12 : decode cX12_becomes 12 = .ok (.iload_n 2, 1) := by decide +kernel
theorem d_X12_becomes_13 : decode cX12_becomes 13 = .ok (.iastore, 1) := by decide +kernel
theorem d_X12_becomes_14 : decode cX12_becomes 14 = .ok (.iload_n 3, 1) := by decide +kernel
theorem d_X12_becomes_15 : decode cX12_becomes 15 = .ok (.ireturn, 1) := by decide +kernel
set_option maxHeartbeats 4000000 in
set_option maxRecDepth 100000 in
theorem t_X12_becomes {X : XT_x} {G : GT_g} {M : Mem_m} {z : (Mem_m × Int)} (C : Cx_ (K_X12_becomes) X G) (hR : Rx_ X G (some .int)) (x0 : Nat) (x1 : Int) (x2 : Int) (o_x1 : ok_i x1) (o_x2 : ok_i x2) (h : f_X12_becomes G.2.2.2 M x0 x1 x2 = some z) : V_ (K_X12_becomes) X G (Fq_ X G (Qi_ G z.1 z.2)) M 0 [(0, .ref (G.1 + x0)), (1, iv_i x1), (2, iv_i x2)] [] := by
  unfold f_X12_becomes at h
  refine V_aload_n (j := 0) C d_X12_becomes_0 rfl rfl ?_
  refine V_getR C ck_12 fw_X12_9 d_X12_becomes_1 h (fun v1 h => ?_)
  refine V_iload_n (j := 1) C d_X12_becomes_4 rfl rfl ?_
  refine V_iald C d_X12_becomes_5 o_x1 h (fun v2 o2 h => ?_)
  refine V_istore_n (lv' := [(3, iv_i v2), (0, .ref (G.1 + x0)), (1, iv_i x1), (2, iv_i x2)]) C d_X12_becomes_6 rfl (by decide) rfl ?_
  refine V_aload_n (j := 1) C d_X12_becomes_7 rfl rfl ?_
  refine V_getR C ck_12 fw_X12_9 d_X12_becomes_8 h (fun v3 h => ?_)
  refine V_iload_n (j := 2) C d_X12_becomes_11 rfl rfl ?_
  refine V_iload_n (j := 3) C d_X12_becomes_12 rfl rfl ?_
  refine V_iast C d_X12_becomes_13 o_x1 o_x2 h (fun M4 h => ?_)
  refine V_iload_n (j := 0) C d_X12_becomes_14 rfl rfl ?_
  exact V_iret_w C hR d_X12_becomes_15 o2 h
set_option maxHeartbeats 4000000 in
set_option maxRecDepth 100000 in
theorem ct_X12_becomes {l : Launch} {G : GT_g} {M : Mem_m} (x0 : Nat) (x1 : Int) (x2 : Int) (o_x1 : ok_i x1) (o_x2 : ok_i x2) {z : (Mem_m × Int)} (h : f_X12_becomes G.2.2.2 M x0 x1 x2 = some z) : MI_ l yX12_becomes K_X12_becomes (some .int) G M [.ref (G.1 + x0), iv_i x1, iv_i x2] z.1 z.2 :=
  met_of (by decide +kernel) rfl (Nat.le_of_ble_eq_true rfl) (fun X hl C hR => by subst hl; exact t_X12_becomes C hR x0 x1 x2 o_x1 o_x2 h)
theorem d_X12_wrongRow_0 : decode cX12_wrongRow 0 = .ok (.iload_n 1, 1) := by decide +kernel
theorem d_X12_wrongRow_1 : decode cX12_wrongRow 1 = .ok (.invokestatic 75, 3) := by decide +kernel
theorem d_X12_wrongRow_4 : decode cX12_wrongRow 4 = .ok (.ifCond .ne 7, 3) := by decide +kernel
theorem d_X12_wrongRow_7 : decode cX12_wrongRow 7 = .ok (.iconst (-1), 1) := by decide +kernel
theorem d_X12_wrongRow_8 : decode cX12_wrongRow 8 = .ok (.goto 47, 3) := by decide +kernel
theorem d_X12_wrongRow_11 : decode cX12_wrongRow 11 = .ok (.aload_n 0, 1) := by decide +kernel
theorem d_X12_wrongRow_12 : decode cX12_wrongRow 12 = .ok (.getfield 16, 3) := by decide +kernel
theorem d_X12_wrongRow_15 : decode cX12_wrongRow 15 = .ok (.iload_n 1, 1) := by decide +kernel
theorem d_X12_wrongRow_16 : decode cX12_wrongRow 16 = .ok (.iaload, 1) := by decide +kernel
theorem d_X12_wrongRow_17 : decode cX12_wrongRow 17 = .ok (.ifCond .ne 8, 3) := by decide +kernel
theorem d_X12_wrongRow_20 : decode cX12_wrongRow 20 = .ok (.bipush (-11), 2) := by decide +kernel
theorem d_X12_wrongRow_22 : decode cX12_wrongRow 22 = .ok (.goto 33, 3) := by decide +kernel
theorem d_X12_wrongRow_25 : decode cX12_wrongRow 25 = .ok (.aload_n 0, 1) := by decide +kernel
theorem d_X12_wrongRow_26 : decode cX12_wrongRow 26 = .ok (.getfield 16, 3) := by decide +kernel
theorem d_X12_wrongRow_29 : decode cX12_wrongRow 29 = .ok (.iload_n 1, 1) := by decide +kernel
theorem d_X12_wrongRow_30 : decode cX12_wrongRow 30 = .ok (.iaload, 1) := by decide +kernel
theorem d_X12_wrongRow_31 : decode cX12_wrongRow 31 = .ok (.iconst 2, 1) := by decide +kernel
theorem d_X12_wrongRow_32 : decode cX12_wrongRow 32 = .ok (.if_icmp .ne 17, 3) := by decide +kernel
theorem d_X12_wrongRow_35 : decode cX12_wrongRow 35 = .ok (.iload_n 2, 1) := by decide +kernel
theorem d_X12_wrongRow_36 : decode cX12_wrongRow 36 = .ok (.ifCond .lt 18, 3) := by decide +kernel
theorem d_X12_wrongRow_39 : decode cX12_wrongRow 39 = .ok (.aload_n 0, 1) := by decide +kernel
theorem d_X12_wrongRow_40 : decode cX12_wrongRow 40 = .ok (.getfield 19, 3) := by decide +kernel
theorem d_X12_wrongRow_43 : decode cX12_wrongRow 43 = .ok (.iload_n 1, 1) := by decide +kernel
theorem d_X12_wrongRow_44 : decode cX12_wrongRow 44 = .ok (.iaload, 1) := by decide +kernel
theorem d_X12_wrongRow_45 : decode cX12_wrongRow 45 = .ok (.iload_n 2, 1) := by decide +kernel
theorem d_X12_wrongRow_46 : decode cX12_wrongRow 46 = .ok (.if_icmp .eq 8, 3) := by decide +kernel
theorem d_X12_wrongRow_49 : decode cX12_wrongRow 49 = .ok (.bipush (-12), 2) := by decide +kernel
theorem d_X12_wrongRow_51 : decode cX12_wrongRow 51 = .ok (.goto 4, 3) := by decide +kernel
theorem d_X12_wrongRow_54 : decode cX12_wrongRow 54 = .ok (.iconst 0, 1) := by decide +kernel
theorem d_X12_wrongRow_55 : decode cX12_wrongRow 55 = .ok (.ireturn, 1) := by decide +kernel
set_option maxHeartbeats 4000000 in
set_option maxRecDepth 100000 in
theorem t_X12_wrongRow {X : XT_x} {G : GT_g} {M : Mem_m} {z : Int} (C : Cx_ (K_X12_wrongRow) X G) (hR : Rx_ X G (some .int)) (x0 : Nat) (x1 : Int) (x2 : Int) (o_x1 : ok_i x1) (o_x2 : ok_i x2) (h : f_X12_wrongRow G.2.2.2 M x0 x1 x2 = some z) : V_ (K_X12_wrongRow) X G (Fq_ X G (Qi_ G M z)) M 0 [(0, .ref (G.1 + x0)), (1, iv_i x1), (2, iv_i x2)] [] := by
  unfold f_X12_wrongRow at h
  refine V_iload_n (j := 1) C d_X12_wrongRow_0 rfl rfl ?_
  refine V_callSri (K' := K_X12_isShelf) (av := [iv_i x1]) (rest := []) ys_X12_isShelf C (yk_X12_isShelf) l1_X12_75 (by decide) d_X12_wrongRow_1 (fun v hv => ct_X12_isShelf x1 o_x1 hv) rfl rfl (Nat.le_of_ble_eq_true rfl) h (fun v1 o1 h => ?_)
  refine V_if_ne (tgt := 11) C d_X12_wrongRow_4 (by decide) o1 h (fun h => ?_) (fun h => ?_)
  · skip
    refine V_iconst C d_X12_wrongRow_7 ?_
    refine V_goto (tgt := 55) C d_X12_wrongRow_8 (by decide) ?_
    exact V_iret_r C hR d_X12_wrongRow_55 (okc rfl) h
  · skip
    refine V_aload_n (j := 0) C d_X12_wrongRow_11 rfl rfl ?_
    refine V_getR C ck_12 fw_X12_16 d_X12_wrongRow_12 h (fun v2 h => ?_)
    refine V_iload_n (j := 1) C d_X12_wrongRow_15 rfl rfl ?_
    refine V_iald C d_X12_wrongRow_16 o_x1 h (fun v3 o3 h => ?_)
    refine V_if_ne (tgt := 25) C d_X12_wrongRow_17 (by decide) o3 h (fun h => ?_) (fun h => ?_)
    · skip
      refine V_bipush (v := (-11)) C d_X12_wrongRow_20 rfl ?_
      refine V_goto (tgt := 55) C d_X12_wrongRow_22 (by decide) ?_
      exact V_iret_r C hR d_X12_wrongRow_55 (okc rfl) h
    · skip
      refine V_aload_n (j := 0) C d_X12_wrongRow_25 rfl rfl ?_
      refine V_getR C ck_12 fw_X12_16 d_X12_wrongRow_26 h (fun v4 h => ?_)
      refine V_iload_n (j := 1) C d_X12_wrongRow_29 rfl rfl ?_
      refine V_iald C d_X12_wrongRow_30 o_x1 h (fun v5 o5 h => ?_)
      refine V_iconst C d_X12_wrongRow_31 ?_
      refine V_icmp_ne (tgt := 49) C d_X12_wrongRow_32 (by decide) o5 (okc rfl) h (fun h => ?_) (fun h => ?_)
      · skip
        refine V_iload_n (j := 2) C d_X12_wrongRow_35 rfl rfl ?_
        refine V_if_lt (tgt := 54) C d_X12_wrongRow_36 (by decide) o_x2 h (fun h => ?_) (fun h => ?_)
        · skip
          refine V_iconst C d_X12_wrongRow_54 ?_
          exact V_iret_r C hR d_X12_wrongRow_55 (okc rfl) h
        · skip
          refine V_aload_n (j := 0) C d_X12_wrongRow_39 rfl rfl ?_
          refine V_getR C ck_12 fw_X12_19 d_X12_wrongRow_40 h (fun v6 h => ?_)
          refine V_iload_n (j := 1) C d_X12_wrongRow_43 rfl rfl ?_
          refine V_iald C d_X12_wrongRow_44 o_x1 h (fun v7 o7 h => ?_)
          refine V_iload_n (j := 2) C d_X12_wrongRow_45 rfl rfl ?_
          refine V_icmp_eq (tgt := 54) C d_X12_wrongRow_46 (by decide) o7 o_x2 h (fun h => ?_) (fun h => ?_)
          · skip
            refine V_iconst C d_X12_wrongRow_54 ?_
            exact V_iret_r C hR d_X12_wrongRow_55 (okc rfl) h
          · skip
            refine V_bipush (v := (-12)) C d_X12_wrongRow_49 rfl ?_
            refine V_goto (tgt := 55) C d_X12_wrongRow_51 (by decide) ?_
            exact V_iret_r C hR d_X12_wrongRow_55 (okc rfl) h
      · skip
        refine V_bipush (v := (-12)) C d_X12_wrongRow_49 rfl ?_
        refine V_goto (tgt := 55) C d_X12_wrongRow_51 (by decide) ?_
        exact V_iret_r C hR d_X12_wrongRow_55 (okc rfl) h
set_option maxHeartbeats 4000000 in
set_option maxRecDepth 100000 in
theorem ct_X12_wrongRow {l : Launch} {G : GT_g} {M : Mem_m} (x0 : Nat) (x1 : Int) (x2 : Int) (o_x1 : ok_i x1) (o_x2 : ok_i x2) {z : Int} (h : f_X12_wrongRow G.2.2.2 M x0 x1 x2 = some z) : MI_ l yX12_wrongRow K_X12_wrongRow (some .int) G M [.ref (G.1 + x0), iv_i x1, iv_i x2] M z :=
  met_of (by decide +kernel) rfl (Nat.le_of_ble_eq_true rfl) (fun X hl C hR => by subst hl; exact t_X12_wrongRow C hR x0 x1 x2 o_x1 o_x2 h)
theorem d_X12_wrongSounds_0 : decode cX12_wrongSounds 0 = .ok (.aload_n 0, 1) := by decide +kernel
theorem d_X12_wrongSounds_1 : decode cX12_wrongSounds 1 = .ok (.iload_n 1, 1) := by decide +kernel
theorem d_X12_wrongSounds_2 : decode cX12_wrongSounds 2 = .ok (.iconst 0, 1) := by decide +kernel
theorem d_X12_wrongSounds_3 : decode cX12_wrongSounds 3 = .ok (.invokevirtual 79, 3) := by decide +kernel
theorem d_X12_wrongSounds_6 : decode cX12_wrongSounds 6 = .ok (.istore 4, 2) := by decide +kernel
theorem d_X12_wrongSounds_8 : decode cX12_wrongSounds 8 = .ok (.iload 4, 2) := by decide +kernel
theorem d_X12_wrongSounds_10 : decode cX12_wrongSounds 10 = .ok (.ifCond .eq 6, 3) := by decide +kernel
theorem d_X12_wrongSounds_13 : decode cX12_wrongSounds 13 = .ok (.iload 4, 2) := by decide +kernel
theorem d_X12_wrongSounds_15 : decode cX12_wrongSounds 15 = .ok (.ireturn, 1) := by decide +kernel
theorem d_X12_wrongSounds_16 : decode cX12_wrongSounds 16 = .ok (.aload_n 0, 1) := by decide +kernel
theorem d_X12_wrongSounds_17 : decode cX12_wrongSounds 17 = .ok (.getfield 22, 3) := by decide +kernel
theorem d_X12_wrongSounds_20 : decode cX12_wrongSounds 20 = .ok (.iload_n 1, 1) := by decide +kernel
theorem d_X12_wrongSounds_21 : decode cX12_wrongSounds 21 = .ok (.iaload, 1) := by decide +kernel
theorem d_X12_wrongSounds_22 : decode cX12_wrongSounds 22 = .ok (.i2l, 1) := by decide +kernel
theorem d_X12_wrongSounds_23 : decode cX12_wrongSounds 23 = .ok (.iload_n 2, 1) := by decide +kernel
theorem d_X12_wrongSounds_24 : decode cX12_wrongSounds 24 = .ok (.i2l, 1) := by decide +kernel
theorem d_X12_wrongSounds_25 : decode cX12_wrongSounds 25 = .ok (.iload_n 3, 1) := by decide +kernel
theorem d_X12_wrongSounds_26 : decode cX12_wrongSounds 26 = .ok (.i2l, 1) := by decide +kernel
theorem d_X12_wrongSounds_27 : decode cX12_wrongSounds 27 = .ok (.invokestatic 69, 3) := by decide +kernel
theorem d_X12_wrongSounds_30 : decode cX12_wrongSounds 30 = .ok (.ifCond .ne 6, 3) := by decide +kernel
theorem d_X12_wrongSounds_33 : decode cX12_wrongSounds 33 = .ok (.bipush (-13), 2) := by decide +kernel
theorem d_X12_wrongSounds_35 : decode cX12_wrongSounds 35 = .ok (.ireturn, 1) := by decide +kernel
theorem d_X12_wrongSounds_36 : decode cX12_wrongSounds 36 = .ok (.iconst 0, 1) := by decide +kernel
theorem d_X12_wrongSounds_37 : decode cX12_wrongSounds 37 = .ok (.istore 5, 2) := by decide +kernel
theorem d_X12_wrongSounds_39 : decode cX12_wrongSounds 39 = .ok (.iload 5, 2) := by decide +kernel
theorem d_X12_wrongSounds_41 : decode cX12_wrongSounds 41 = .ok (.aload_n 0, 1) := by decide +kernel
theorem d_X12_wrongSounds_42 : decode cX12_wrongSounds 42 = .ok (.getfield 22, 3) := by decide +kernel
theorem d_X12_wrongSounds_45 : decode cX12_wrongSounds 45 = .ok (.iload_n 1, 1) := by decide +kernel
theorem d_X12_wrongSounds_46 : decode cX12_wrongSounds 46 = .ok (.iaload, 1) := by decide +kernel
theorem d_X12_wrongSounds_47 : decode cX12_wrongSounds 47 = .ok (.if_icmp .ge 35, 3) := by decide +kernel
theorem d_X12_wrongSounds_50 : decode cX12_wrongSounds 50 = .ok (.aload_n 0, 1) := by decide +kernel
theorem d_X12_wrongSounds_51 : decode cX12_wrongSounds 51 = .ok (.getfield 25, 3) := by decide +kernel
theorem d_X12_wrongSounds_54 : decode cX12_wrongSounds 54 = .ok (.bipush 80, 2) := by decide +kernel
theorem d_X12_wrongSounds_56 : decode cX12_wrongSounds 56 = .ok (.iload_n 1, 1) := by decide +kernel
theorem d_X12_wrongSounds_57 : decode cX12_wrongSounds 57 = .ok (.imul, 1) := by decide +kernel
theorem d_X12_wrongSounds_58 : decode cX12_wrongSounds 58 = .ok (.iload 5, 2) := by decide +kernel
theorem d_X12_wrongSounds_60 : decode cX12_wrongSounds 60 = .ok (.iadd, 1) := by decide +kernel
theorem d_X12_wrongSounds_61 : decode cX12_wrongSounds 61 = .ok (.iaload, 1) := by decide +kernel
theorem d_X12_wrongSounds_62 : decode cX12_wrongSounds 62 = .ok (.i2l, 1) := by decide +kernel
theorem d_X12_wrongSounds_63 : decode cX12_wrongSounds 63 = .ok (.lconst 0, 1) := by decide +kernel
theorem d_X12_wrongSounds_64 : decode cX12_wrongSounds 64 = .ok (.ldc2_w 83, 3) := by decide +kernel
theorem d_X12_wrongSounds_67 : decode cX12_wrongSounds 67 = .ok (.invokestatic 69, 3) := by decide +kernel
theorem d_X12_wrongSounds_70 : decode cX12_wrongSounds 70 = .ok (.ifCond .ne 6, 3) := by decide +kernel
theorem d_X12_wrongSounds_73 : decode cX12_wrongSounds 73 = .ok (.bipush (-13), 2) := by decide +kernel
theorem d_X12_wrongSounds_75 : decode cX12_wrongSounds 75 = .ok (.ireturn, 1) := by decide +kernel
theorem d_X12_wrongSounds_76 : decode cX12_wrongSounds 76 = .ok (.iinc 5 1, 3) := by decide +kernel
theorem d_X12_wrongSounds_79 : decode cX12_wrongSounds 79 = .ok (.goto (-40), 3) := by decide +kernel
theorem d_X12_wrongSounds_82 : decode cX12_wrongSounds 82 = .ok (.iconst 0, 1) := by decide +kernel
theorem d_X12_wrongSounds_83 : decode cX12_wrongSounds 83 = .ok (.ireturn, 1) := by decide +kernel
set_option maxHeartbeats 4000000 in
set_option maxRecDepth 100000 in
theorem t_X12_wrongSounds_39 {X : XT_x} {G : GT_g} {z : Int} (C : Cx_ (K_X12_wrongSounds) X G) (hR : Rx_ X G (some .int)) (M : Mem_m) (x0 : Nat) (x1 : Int) (o_x1 : ok_i x1) : ∀ (n : Nat) (x5 : Int) (o_x5 : ok_i x5), f_X12_wrongSounds_39 G.2.2.2 M x0 x1 n x5 = some z → V_ (K_X12_wrongSounds) X G (Fq_ X G (Qi_ G M z)) M 39 [(0, .ref (G.1 + x0)), (1, iv_i x1), (5, iv_i x5)] [] := by
  intro n
  induction n with
  | zero => intro x5 o_x5 h; exact absurd h (by simp [f_X12_wrongSounds_39])
  | succ n ih =>
    intro x5 o_x5 h
    unfold f_X12_wrongSounds_39 at h
    refine V_iload (j := 2) C d_X12_wrongSounds_39 rfl ?_
    refine V_aload_n (j := 0) C d_X12_wrongSounds_41 rfl rfl ?_
    refine V_getR C ck_12 fw_X12_22 d_X12_wrongSounds_42 h (fun v1 h => ?_)
    refine V_iload_n (j := 1) C d_X12_wrongSounds_45 rfl rfl ?_
    refine V_iald C d_X12_wrongSounds_46 o_x1 h (fun v2 o2 h => ?_)
    refine V_icmp_ge (tgt := 82) C d_X12_wrongSounds_47 (by decide) o_x5 o2 h (fun h => ?_) (fun h => ?_)
    · skip
      refine V_aload_n (j := 0) C d_X12_wrongSounds_50 rfl rfl ?_
      refine V_getR C ck_12 fw_X12_25 d_X12_wrongSounds_51 h (fun v3 h => ?_)
      refine V_bipush (v := 80) C d_X12_wrongSounds_54 rfl ?_
      refine V_iload_n (j := 1) C d_X12_wrongSounds_56 rfl rfl ?_
      refine V_imul C d_X12_wrongSounds_57 ?_
      refine V_iload (j := 2) C d_X12_wrongSounds_58 rfl ?_
      refine V_iadd C d_X12_wrongSounds_60 ?_
      refine V_iald C d_X12_wrongSounds_61 (ok_wr _) h (fun v4 o4 h => ?_)
      refine V_i2l C d_X12_wrongSounds_62 o4 ?_
      refine V_lconst0 C d_X12_wrongSounds_63 ?_
      refine V_ldc2 (v := 9) C d_X12_wrongSounds_64 cl_X12_83 ?_
      refine V_callSri (K' := K_X12_isIn) (av := [jv_i v4, jv_i 0, jv_i 9]) (rest := []) ys_X12_isIn C (yk_X12_isIn) l1_X12_69 (by decide) d_X12_wrongSounds_67 (fun v hv => ct_X12_isIn v4 0 9 o4 (okc rfl) (okc rfl) hv) rfl rfl (Nat.le_of_ble_eq_true rfl) h (fun v5 o5 h => ?_)
      refine V_if_ne (tgt := 76) C d_X12_wrongSounds_70 (by decide) o5 h (fun h => ?_) (fun h => ?_)
      · skip
        refine V_bipush (v := (-13)) C d_X12_wrongSounds_73 rfl ?_
        exact V_iret_r C hR d_X12_wrongSounds_75 (okc rfl) h
      · skip
        refine V_iinc (j := 2) (lv' := [(5, iv_i (wr_i (x5 + 1))), (0, .ref (G.1 + x0)), (1, iv_i x1)]) C d_X12_wrongSounds_76 rfl (by decide) rfl ?_
        refine V_goto (tgt := 39) C d_X12_wrongSounds_79 (by decide) ?_
        refine V_lv [1, 2, 0] rfl (ih (wr_i (x5 + 1)) (ok_wr _) h)
    · skip
      refine V_iconst C d_X12_wrongSounds_82 ?_
      exact V_iret_r C hR d_X12_wrongSounds_83 (okc rfl) h
set_option maxHeartbeats 4000000 in
set_option maxRecDepth 100000 in
theorem t_X12_wrongSounds {X : XT_x} {G : GT_g} {M : Mem_m} {z : Int} (C : Cx_ (K_X12_wrongSounds) X G) (hR : Rx_ X G (some .int)) (x0 : Nat) (x1 : Int) (x2 : Int) (x3 : Int) (o_x1 : ok_i x1) (o_x2 : ok_i x2) (o_x3 : ok_i x3) (h : f_X12_wrongSounds G.2.2.2 M x0 x1 x2 x3 = some z) : V_ (K_X12_wrongSounds) X G (Fq_ X G (Qi_ G M z)) M 0 [(0, .ref (G.1 + x0)), (1, iv_i x1), (2, iv_i x2), (3, iv_i x3)] [] := by
  unfold f_X12_wrongSounds at h
  refine V_aload_n (j := 0) C d_X12_wrongSounds_0 rfl rfl ?_
  refine V_iload_n (j := 1) C d_X12_wrongSounds_1 rfl rfl ?_
  refine V_iconst C d_X12_wrongSounds_2 ?_
  refine V_callVri (K' := K_X12_wrongRow) (a := x0) (ci := 12) (av := [iv_i x1, iv_i 0]) (rest := []) yi_X12_wrongRow (by decide) rfl C (yk_X12_wrongRow) l1_X12_79 (by decide) d_X12_wrongSounds_3 (fun v hv => ct_X12_wrongRow x0 x1 0 o_x1 (okc rfl) hv) rfl rfl (Nat.le_of_ble_eq_true rfl) h (fun v1 o1 h => ?_)
  refine V_istore (lv' := [(4, iv_i v1), (0, .ref (G.1 + x0)), (1, iv_i x1), (2, iv_i x2), (3, iv_i x3)]) C d_X12_wrongSounds_6 (by decide) rfl ?_
  refine V_iload (j := 0) C d_X12_wrongSounds_8 rfl ?_
  refine V_if_eq (tgt := 16) C d_X12_wrongSounds_10 (by decide) o1 h (fun h => ?_) (fun h => ?_)
  · skip
    refine V_aload_n (j := 1) C d_X12_wrongSounds_16 rfl rfl ?_
    refine V_getR C ck_12 fw_X12_22 d_X12_wrongSounds_17 h (fun v2 h => ?_)
    refine V_iload_n (j := 2) C d_X12_wrongSounds_20 rfl rfl ?_
    refine V_iald C d_X12_wrongSounds_21 o_x1 h (fun v3 o3 h => ?_)
    refine V_i2l C d_X12_wrongSounds_22 o3 ?_
    refine V_iload_n (j := 3) C d_X12_wrongSounds_23 rfl rfl ?_
    refine V_i2l C d_X12_wrongSounds_24 o_x2 ?_
    refine V_iload_n (j := 4) C d_X12_wrongSounds_25 rfl rfl ?_
    refine V_i2l C d_X12_wrongSounds_26 o_x3 ?_
    refine V_callSri (K' := K_X12_isIn) (av := [jv_i v3, jv_i x2, jv_i x3]) (rest := []) ys_X12_isIn C (yk_X12_isIn) l1_X12_69 (by decide) d_X12_wrongSounds_27 (fun v hv => ct_X12_isIn v3 x2 x3 o3 o_x2 o_x3 hv) rfl rfl (Nat.le_of_ble_eq_true rfl) h (fun v4 o4 h => ?_)
    refine V_if_ne (tgt := 36) C d_X12_wrongSounds_30 (by decide) o4 h (fun h => ?_) (fun h => ?_)
    · skip
      refine V_bipush (v := (-13)) C d_X12_wrongSounds_33 rfl ?_
      exact V_iret_r C hR d_X12_wrongSounds_35 (okc rfl) h
    · skip
      refine V_iconst C d_X12_wrongSounds_36 ?_
      refine V_istore (lv' := [(5, iv_i 0), (4, iv_i v1), (0, .ref (G.1 + x0)), (1, iv_i x1), (2, iv_i x2), (3, iv_i x3)]) C d_X12_wrongSounds_37 (by decide) rfl ?_
      refine V_lv [2, 3, 0] rfl (t_X12_wrongSounds_39 C hR M x0 x1 o_x1 FU_ 0 (okc rfl) h)
  · skip
    refine V_iload (j := 0) C d_X12_wrongSounds_13 rfl ?_
    exact V_iret_r C hR d_X12_wrongSounds_15 o1 h
set_option maxHeartbeats 4000000 in
set_option maxRecDepth 100000 in
theorem ct_X12_wrongSounds {l : Launch} {G : GT_g} {M : Mem_m} (x0 : Nat) (x1 : Int) (x2 : Int) (x3 : Int) (o_x1 : ok_i x1) (o_x2 : ok_i x2) (o_x3 : ok_i x3) {z : Int} (h : f_X12_wrongSounds G.2.2.2 M x0 x1 x2 x3 = some z) : MI_ l yX12_wrongSounds K_X12_wrongSounds (some .int) G M [.ref (G.1 + x0), iv_i x1, iv_i x2, iv_i x3] M z :=
  met_of (by decide +kernel) rfl (Nat.le_of_ble_eq_true rfl) (fun X hl C hR => by subst hl; exact t_X12_wrongSounds C hR x0 x1 x2 x3 o_x1 o_x2 o_x3 h)
theorem d_X12_card_0 : decode cX12_card 0 = .ok (.iload_n 1, 1) := by decide +kernel
theorem d_X12_card_1 : decode cX12_card 1 = .ok (.invokestatic 75, 3) := by decide +kernel
theorem d_X12_card_4 : decode cX12_card 4 = .ok (.ifCond .eq 60, 3) := by decide +kernel
theorem d_X12_card_7 : decode cX12_card 7 = .ok (.iload_n 2, 1) := by decide +kernel
theorem d_X12_card_8 : decode cX12_card 8 = .ok (.i2l, 1) := by decide +kernel
theorem d_X12_card_9 : decode cX12_card 9 = .ok (.lconst 0, 1) := by decide +kernel
theorem d_X12_card_10 : decode cX12_card 10 = .ok (.ldc2_w 85, 3) := by decide +kernel
theorem d_X12_card_13 : decode cX12_card 13 = .ok (.invokestatic 69, 3) := by decide +kernel
theorem d_X12_card_16 : decode cX12_card 16 = .ok (.ifCond .eq 48, 3) := by decide +kernel
theorem d_X12_card_19 : decode cX12_card 19 = .ok (.iload_n 3, 1) := by decide +kernel
theorem d_X12_card_20 : decode cX12_card 20 = .ok (.ifCond .lt 44, 3) := by decide +kernel
theorem d_X12_card_23 : decode cX12_card 23 = .ok (.iload_n 3, 1) := by decide +kernel
theorem d_X12_card_24 : decode cX12_card 24 = .ok (.bipush 100, 2) := by decide +kernel
theorem d_X12_card_26 : decode cX12_card 26 = .ok (.idiv, 1) := by decide +kernel
theorem d_X12_card_27 : decode cX12_card 27 = .ok (.bipush 7, 2) := by decide +kernel
theorem d_X12_card_29 : decode cX12_card 29 = .ok (.if_icmp .gt 35, 3) := by decide +kernel
theorem d_X12_card_32 : decode cX12_card 32 = .ok (.iload_n 3, 1) := by decide +kernel
theorem d_X12_card_33 : decode cX12_card 33 = .ok (.bipush 10, 2) := by decide +kernel
theorem d_X12_card_35 : decode cX12_card 35 = .ok (.idiv, 1) := by decide +kernel
theorem d_X12_card_36 : decode cX12_card 36 = .ok (.bipush 10, 2) := by decide +kernel
theorem d_X12_card_38 : decode cX12_card 38 = .ok (.irem, 1) := by decide +kernel
theorem d_X12_card_39 : decode cX12_card 39 = .ok (.iconst 3, 1) := by decide +kernel
theorem d_X12_card_40 : decode cX12_card 40 = .ok (.if_icmp .gt 24, 3) := by decide +kernel
theorem d_X12_card_43 : decode cX12_card 43 = .ok (.iload_n 3, 1) := by decide +kernel
theorem d_X12_card_44 : decode cX12_card 44 = .ok (.bipush 10, 2) := by decide +kernel
theorem d_X12_card_46 : decode cX12_card 46 = .ok (.irem, 1) := by decide +kernel
theorem d_X12_card_47 : decode cX12_card 47 = .ok (.iconst 1, 1) := by decide +kernel
theorem d_X12_card_48 : decode cX12_card 48 = .ok (.if_icmp .gt 16, 3) := by decide +kernel
theorem d_X12_card_51 : decode cX12_card 51 = .ok (.iload 4, 2) := by decide +kernel
theorem d_X12_card_53 : decode cX12_card 53 = .ok (.i2l, 1) := by decide +kernel
theorem d_X12_card_54 : decode cX12_card 54 = .ok (.lconst 0, 1) := by decide +kernel
theorem d_X12_card_55 : decode cX12_card 55 = .ok (.ldc2_w 87, 3) := by decide +kernel
theorem d_X12_card_58 : decode cX12_card 58 = .ok (.invokestatic 69, 3) := by decide +kernel
theorem d_X12_card_61 : decode cX12_card 61 = .ok (.ifCond .ne 5, 3) := by decide +kernel
theorem d_X12_card_64 : decode cX12_card 64 = .ok (.iconst (-1), 1) := by decide +kernel
theorem d_X12_card_65 : decode cX12_card 65 = .ok (.ireturn, 1) := by decide +kernel
theorem d_X12_card_66 : decode cX12_card 66 = .ok (.aload_n 0, 1) := by decide +kernel
theorem d_X12_card_67 : decode cX12_card 67 = .ok (.getfield 9, 3) := by decide +kernel
theorem d_X12_card_70 : decode cX12_card 70 = .ok (.sipush 1062, 3) := by decide +kernel
theorem d_X12_card_73 : decode cX12_card 73 = .ok (.iaload, 1) := by decide +kernel
theorem d_X12_card_74 : decode cX12_card 74 = .ok (.bipush 40, 2) := by decide +kernel
theorem d_X12_card_76 : decode cX12_card 76 = .ok (.if_icmp .ne 6, 3) := by decide +kernel
theorem d_X12_card_79 : decode cX12_card 79 = .ok (.bipush (-2), 2) := by decide +kernel
theorem d_X12_card_81 : decode cX12_card 81 = .ok (.ireturn, 1) := by decide +kernel
theorem d_X12_card_82 : decode cX12_card 82 = .ok (.aload_n 0, 1) := by decide +kernel
theorem d_X12_card_83 : decode cX12_card 83 = .ok (.iload_n 1, 1) := by decide +kernel
theorem d_X12_card_84 : decode cX12_card 84 = .ok (.iconst 1, 1) := by decide +kernel
theorem d_X12_card_85 : decode cX12_card 85 = .ok (.bipush 8, 2) := by decide +kernel
theorem d_X12_card_87 : decode cX12_card 87 = .ok (.invokevirtual 89, 3) := by decide +kernel
theorem d_X12_card_90 : decode cX12_card 90 = .ok (.istore 5, 2) := by decide +kernel
theorem d_X12_card_92 : decode cX12_card 92 = .ok (.iload 5, 2) := by decide +kernel
theorem d_X12_card_94 : decode cX12_card 94 = .ok (.ifCond .eq 6, 3) := by decide +kernel
theorem d_X12_card_97 : decode cX12_card 97 = .ok (.iload 5, 2) := by decide +kernel
theorem d_X12_card_99 : decode cX12_card 99 = .ok (.ireturn, 1) := by decide +kernel
theorem d_X12_card_100 : decode cX12_card 100 = .ok (.bipush 15, 2) := by decide +kernel
theorem d_X12_card_102 : decode cX12_card 102 = .ok (.aload_n 0, 1) := by decide +kernel
theorem d_X12_card_103 : decode cX12_card 103 = .ok (.getfield 9, 3) := by decide +kernel
theorem d_X12_card_106 : decode cX12_card 106 = .ok (.sipush 1062, 3) := by decide +kernel
theorem d_X12_card_109 : decode cX12_card 109 = .ok (.iaload, 1) := by decide +kernel
theorem d_X12_card_110 : decode cX12_card 110 = .ok (.imul, 1) := by decide +kernel
theorem d_X12_card_111 : decode cX12_card 111 = .ok (.istore 6, 2) := by decide +kernel
theorem d_X12_card_113 : decode cX12_card 113 = .ok (.iconst 0, 1) := by decide +kernel
theorem d_X12_card_114 : decode cX12_card 114 = .ok (.istore 7, 2) := by decide +kernel
theorem d_X12_card_116 : decode cX12_card 116 = .ok (.iload 7, 2) := by decide +kernel
theorem d_X12_card_118 : decode cX12_card 118 = .ok (.bipush 15, 2) := by decide +kernel
theorem d_X12_card_120 : decode cX12_card 120 = .ok (.if_icmp .ge 20, 3) := by decide +kernel
theorem d_X12_card_123 : decode cX12_card 123 = .ok (.aload_n 0, 1) := by decide +kernel
theorem d_X12_card_124 : decode cX12_card 124 = .ok (.getfield 9, 3) := by decide +kernel
theorem d_X12_card_127 : decode cX12_card 127 = .ok (.iload 6, 2) := by decide +kernel
theorem d_X12_card_129 : decode cX12_card 129 = .ok (.iload 7, 2) := by decide +kernel
theorem d_X12_card_131 : decode cX12_card 131 = .ok (.iadd, 1) := by decide +kernel
theorem d_X12_card_132 : decode cX12_card 132 = .ok (.iconst 0, 1) := by decide +kernel
theorem d_X12_card_133 : decode cX12_card 133 = .ok (.iastore, 1) := by decide +kernel
theorem d_X12_card_134 : decode cX12_card 134 = .ok (.iinc 7 1, 3) := by decide +kernel
theorem d_X12_card_137 : decode cX12_card 137 = .ok (.goto (-21), 3) := by decide +kernel
theorem d_X12_card_140 : decode cX12_card 140 = .ok (.aload_n 0, 1) := by decide +kernel
theorem d_X12_card_141 : decode cX12_card 141 = .ok (.getfield 9, 3) := by decide +kernel
theorem d_X12_card_144 : decode cX12_card 144 = .ok (.iload 6, 2) := by decide +kernel
theorem d_X12_card_146 : decode cX12_card 146 = .ok (.aload_n 0, 1) := by decide +kernel
theorem d_X12_card_147 : decode cX12_card 147 = .ok (.getfield 22, 3) := by decide +kernel
theorem d_X12_card_150 : decode cX12_card 150 = .ok (.iload_n 1, 1) := by decide +kernel
theorem d_X12_card_151 : decode cX12_card 151 = .ok (.iaload, 1) := by decide +kernel
theorem d_X12_card_152 : decode cX12_card 152 = .ok (.iastore, 1) := by decide +kernel
theorem d_X12_card_153 : decode cX12_card 153 = .ok (.iconst 0, 1) := by decide +kernel
theorem d_X12_card_154 : decode cX12_card 154 = .ok (.istore 7, 2) := by decide +kernel
theorem d_X12_card_156 : decode cX12_card 156 = .ok (.iload 7, 2) := by decide +kernel
theorem d_X12_card_158 : decode cX12_card 158 = .ok (.aload_n 0, 1) := by decide +kernel
theorem d_X12_card_159 : decode cX12_card 159 = .ok (.getfield 22, 3) := by decide +kernel
theorem d_X12_card_162 : decode cX12_card 162 = .ok (.iload_n 1, 1) := by decide +kernel
theorem d_X12_card_163 : decode cX12_card 163 = .ok (.iaload, 1) := by decide +kernel
theorem d_X12_card_164 : decode cX12_card 164 = .ok (.if_icmp .ge 33, 3) := by decide +kernel
theorem d_X12_card_167 : decode cX12_card 167 = .ok (.aload_n 0, 1) := by decide +kernel
theorem d_X12_card_168 : decode cX12_card 168 = .ok (.getfield 9, 3) := by decide +kernel
theorem d_X12_card_171 : decode cX12_card 171 = .ok (.iload 6, 2) := by decide +kernel
theorem d_X12_card_173 : decode cX12_card 173 = .ok (.iconst 1, 1) := by decide +kernel
theorem d_X12_card_174 : decode cX12_card 174 = .ok (.iadd, 1) := by decide +kernel
theorem d_X12_card_175 : decode cX12_card 175 = .ok (.iload 7, 2) := by decide +kernel
theorem d_X12_card_177 : decode cX12_card 177 = .ok (.iadd, 1) := by decide +kernel
theorem d_X12_card_178 : decode cX12_card 178 = .ok (.aload_n 0, 1) := by decide +kernel
theorem d_X12_card_179 : decode cX12_card 179 = .ok (.getfield 25, 3) := by decide +kernel
theorem d_X12_card_182 : decode cX12_card 182 = .ok (.bipush 80, 2) := by decide +kernel
theorem d_X12_card_184 : decode cX12_card 184 = .ok (.iload_n 1, 1) := by decide +kernel
theorem d_X12_card_185 : decode cX12_card 185 = .ok (.imul, 1) := by decide +kernel
theorem d_X12_card_186 : decode cX12_card 186 = .ok (.iload 7, 2) := by decide +kernel
theorem d_X12_card_188 : decode cX12_card 188 = .ok (.iadd, 1) := by decide +kernel
theorem d_X12_card_189 : decode cX12_card 189 = .ok (.iaload, 1) := by decide +kernel
theorem d_X12_card_190 : decode cX12_card 190 = .ok (.iastore, 1) := by decide +kernel
theorem d_X12_card_191 : decode cX12_card 191 = .ok (.iinc 7 1, 3) := by decide +kernel
theorem d_X12_card_194 : decode cX12_card 194 = .ok (.goto (-38), 3) := by decide +kernel
theorem d_X12_card_197 : decode cX12_card 197 = .ok (.aload_n 0, 1) := by decide +kernel
theorem d_X12_card_198 : decode cX12_card 198 = .ok (.getfield 9, 3) := by decide +kernel
theorem d_X12_card_201 : decode cX12_card 201 = .ok (.iload 6, 2) := by decide +kernel
theorem d_X12_card_203 : decode cX12_card 203 = .ok (.bipush 9, 2) := by decide +kernel
theorem d_X12_card_205 : decode cX12_card 205 = .ok (.iadd, 1) := by decide +kernel
theorem d_X12_card_206 : decode cX12_card 206 = .ok (.iload_n 2, 1) := by decide +kernel
theorem d_X12_card_207 : decode cX12_card 207 = .ok (.iastore, 1) := by decide +kernel
theorem d_X12_card_208 : decode cX12_card 208 = .ok (.aload_n 0, 1) := by decide +kernel
theorem d_X12_card_209 : decode cX12_card 209 = .ok (.getfield 9, 3) := by decide +kernel
theorem d_X12_card_212 : decode cX12_card 212 = .ok (.iload 6, 2) := by decide +kernel
theorem d_X12_card_214 : decode cX12_card 214 = .ok (.bipush 10, 2) := by decide +kernel
theorem d_X12_card_216 : decode cX12_card 216 = .ok (.iadd, 1) := by decide +kernel
theorem d_X12_card_217 : decode cX12_card 217 = .ok (.iload_n 3, 1) := by decide +kernel
theorem d_X12_card_218 : decode cX12_card 218 = .ok (.bipush 100, 2) := by decide +kernel
theorem d_X12_card_220 : decode cX12_card 220 = .ok (.idiv, 1) := by decide +kernel
theorem d_X12_card_221 : decode cX12_card 221 = .ok (.iastore, 1) := by decide +kernel
theorem d_X12_card_222 : decode cX12_card 222 = .ok (.aload_n 0, 1) := by decide +kernel
theorem d_X12_card_223 : decode cX12_card 223 = .ok (.getfield 9, 3) := by decide +kernel
theorem d_X12_card_226 : decode cX12_card 226 = .ok (.iload 6, 2) := by decide +kernel
theorem d_X12_card_228 : decode cX12_card 228 = .ok (.bipush 11, 2) := by decide +kernel
theorem d_X12_card_230 : decode cX12_card 230 = .ok (.iadd, 1) := by decide +kernel
theorem d_X12_card_231 : decode cX12_card 231 = .ok (.iload_n 3, 1) := by decide +kernel
theorem d_X12_card_232 : decode cX12_card 232 = .ok (.bipush 10, 2) := by decide +kernel
theorem d_X12_card_234 : decode cX12_card 234 = .ok (.idiv, 1) := by decide +kernel
theorem d_X12_card_235 : decode cX12_card 235 = .ok (.bipush 10, 2) := by decide +kernel
theorem d_X12_card_237 : decode cX12_card 237 = .ok (.irem, 1) := by decide +kernel
theorem d_X12_card_238 : decode cX12_card 238 = .ok (.iastore, 1) := by decide +kernel
theorem d_X12_card_239 : decode cX12_card 239 = .ok (.aload_n 0, 1) := by decide +kernel
theorem d_X12_card_240 : decode cX12_card 240 = .ok (.getfield 9, 3) := by decide +kernel
theorem d_X12_card_243 : decode cX12_card 243 = .ok (.iload 6, 2) := by decide +kernel
theorem d_X12_card_245 : decode cX12_card 245 = .ok (.bipush 12, 2) := by decide +kernel
theorem d_X12_card_247 : decode cX12_card 247 = .ok (.iadd, 1) := by decide +kernel
theorem d_X12_card_248 : decode cX12_card 248 = .ok (.iload 4, 2) := by decide +kernel
theorem d_X12_card_250 : decode cX12_card 250 = .ok (.iastore, 1) := by decide +kernel
theorem d_X12_card_251 : decode cX12_card 251 = .ok (.aload_n 0, 1) := by decide +kernel
theorem d_X12_card_252 : decode cX12_card 252 = .ok (.getfield 9, 3) := by decide +kernel
theorem d_X12_card_255 : decode cX12_card 255 = .ok (.iload 6, 2) := by decide +kernel
theorem d_X12_card_257 : decode cX12_card 257 = .ok (.bipush 13, 2) := by decide +kernel
theorem d_X12_card_259 : decode cX12_card 259 = .ok (.iadd, 1) := by decide +kernel
theorem d_X12_card_260 : decode cX12_card 260 = .ok (.iload_n 3, 1) := by decide +kernel
theorem d_X12_card_261 : decode cX12_card 261 = .ok (.bipush 10, 2) := by decide +kernel
theorem d_X12_card_263 : decode cX12_card 263 = .ok (.irem, 1) := by decide +kernel
theorem d_X12_card_264 : decode cX12_card 264 = .ok (.iastore, 1) := by decide +kernel
theorem d_X12_card_265 : decode cX12_card 265 = .ok (.aload_n 0, 1) := by decide +kernel
theorem d_X12_card_266 : decode cX12_card 266 = .ok (.getfield 9, 3) := by decide +kernel
theorem d_X12_card_269 : decode cX12_card 269 = .ok (.sipush 1062, 3) := by decide +kernel
theorem d_X12_card_272 : decode cX12_card 272 = .ok (.dup2, 1) := by decide +kernel
theorem d_X12_card_273 : decode cX12_card 273 = .ok (.iaload, 1) := by decide +kernel
theorem d_X12_card_274 : decode cX12_card 274 = .ok (.iconst 1, 1) := by decide +kernel
theorem d_X12_card_275 : decode cX12_card 275 = .ok (.iadd, 1) := by decide +kernel
theorem d_X12_card_276 : decode cX12_card 276 = .ok (.iastore, 1) := by decide +kernel
theorem d_X12_card_277 : decode cX12_card 277 = .ok (.aload_n 0, 1) := by decide +kernel
theorem d_X12_card_278 : decode cX12_card 278 = .ok (.getfield 9, 3) := by decide +kernel
theorem d_X12_card_281 : decode cX12_card 281 = .ok (.sipush 1062, 3) := by decide +kernel
theorem d_X12_card_284 : decode cX12_card 284 = .ok (.iaload, 1) := by decide +kernel
theorem d_X12_card_285 : decode cX12_card 285 = .ok (.iconst 1, 1) := by decide +kernel
theorem d_X12_card_286 : decode cX12_card 286 = .ok (.isub, 1) := by decide +kernel
theorem d_X12_card_287 : decode cX12_card 287 = .ok (.ireturn, 1) := by decide +kernel
set_option maxHeartbeats 4000000 in
set_option maxRecDepth 100000 in
theorem t_X12_card_156 {X : XT_x} {G : GT_g} {z : (Mem_m × Int)} (C : Cx_ (K_X12_card) X G) (hR : Rx_ X G (some .int)) (x0 : Nat) (x1 : Int) (x2 : Int) (x3 : Int) (x4 : Int) (x6 : Int) (o_x1 : ok_i x1) (o_x2 : ok_i x2) (o_x3 : ok_i x3) (o_x4 : ok_i x4) (o_x6 : ok_i x6) : ∀ (n : Nat) (M : Mem_m) (x7 : Int) (o_x7 : ok_i x7), f_X12_card_156 G.2.2.2 x0 x1 x2 x3 x4 x6 n M x7 = some z → V_ (K_X12_card) X G (Fq_ X G (Qi_ G z.1 z.2)) M 156 [(0, .ref (G.1 + x0)), (1, iv_i x1), (2, iv_i x2), (3, iv_i x3), (4, iv_i x4), (6, iv_i x6), (7, iv_i x7)] [] := by
  intro n
  induction n with
  | zero => intro M x7 o_x7 h; exact absurd h (by simp [f_X12_card_156])
  | succ n ih =>
    intro M x7 o_x7 h
    unfold f_X12_card_156 at h
    refine V_iload (j := 6) C d_X12_card_156 rfl ?_
    refine V_aload_n (j := 0) C d_X12_card_158 rfl rfl ?_
    refine V_getR C ck_12 fw_X12_22 d_X12_card_159 h (fun v1 h => ?_)
    refine V_iload_n (j := 1) C d_X12_card_162 rfl rfl ?_
    refine V_iald C d_X12_card_163 o_x1 h (fun v2 o2 h => ?_)
    refine V_icmp_ge (tgt := 197) C d_X12_card_164 (by decide) o_x7 o2 h (fun h => ?_) (fun h => ?_)
    · skip
      refine V_aload_n (j := 0) C d_X12_card_167 rfl rfl ?_
      refine V_getR C ck_12 fw_X12_9 d_X12_card_168 h (fun v3 h => ?_)
      refine V_iload (j := 5) C d_X12_card_171 rfl ?_
      refine V_iconst C d_X12_card_173 ?_
      refine V_iadd C d_X12_card_174 ?_
      refine V_iload (j := 6) C d_X12_card_175 rfl ?_
      refine V_iadd C d_X12_card_177 ?_
      refine V_aload_n (j := 0) C d_X12_card_178 rfl rfl ?_
      refine V_getR C ck_12 fw_X12_25 d_X12_card_179 h (fun v4 h => ?_)
      refine V_bipush (v := 80) C d_X12_card_182 rfl ?_
      refine V_iload_n (j := 1) C d_X12_card_184 rfl rfl ?_
      refine V_imul C d_X12_card_185 ?_
      refine V_iload (j := 6) C d_X12_card_186 rfl ?_
      refine V_iadd C d_X12_card_188 ?_
      refine V_iald C d_X12_card_189 (ok_wr _) h (fun v5 o5 h => ?_)
      refine V_iast C d_X12_card_190 (ok_wr _) o5 h (fun M6 h => ?_)
      refine V_iinc (j := 6) (lv' := [(7, iv_i (wr_i (x7 + 1))), (0, .ref (G.1 + x0)), (1, iv_i x1), (2, iv_i x2), (3, iv_i x3), (4, iv_i x4), (6, iv_i x6)]) C d_X12_card_191 rfl (by decide) rfl ?_
      refine V_goto (tgt := 156) C d_X12_card_194 (by decide) ?_
      refine V_lv [1, 2, 3, 4, 5, 6, 0] rfl (ih M6 (wr_i (x7 + 1)) (ok_wr _) h)
    · skip
      refine V_aload_n (j := 0) C d_X12_card_197 rfl rfl ?_
      refine V_getR C ck_12 fw_X12_9 d_X12_card_198 h (fun v7 h => ?_)
      refine V_iload (j := 5) C d_X12_card_201 rfl ?_
      refine V_bipush (v := 9) C d_X12_card_203 rfl ?_
      refine V_iadd C d_X12_card_205 ?_
      refine V_iload_n (j := 2) C d_X12_card_206 rfl rfl ?_
      refine V_iast C d_X12_card_207 (ok_wr _) o_x2 h (fun M8 h => ?_)
      refine V_aload_n (j := 0) C d_X12_card_208 rfl rfl ?_
      refine V_getR C ck_12 fw_X12_9 d_X12_card_209 h (fun v9 h => ?_)
      refine V_iload (j := 5) C d_X12_card_212 rfl ?_
      refine V_bipush (v := 10) C d_X12_card_214 rfl ?_
      refine V_iadd C d_X12_card_216 ?_
      refine V_iload_n (j := 3) C d_X12_card_217 rfl rfl ?_
      refine V_bipush (v := 100) C d_X12_card_218 rfl ?_
      refine V_idiv C d_X12_card_220 (okc rfl) h (fun h => ?_)
      refine V_iast C d_X12_card_221 (ok_wr _) (ok_I _) h (fun M10 h => ?_)
      refine V_aload_n (j := 0) C d_X12_card_222 rfl rfl ?_
      refine V_getR C ck_12 fw_X12_9 d_X12_card_223 h (fun v11 h => ?_)
      refine V_iload (j := 5) C d_X12_card_226 rfl ?_
      refine V_bipush (v := 11) C d_X12_card_228 rfl ?_
      refine V_iadd C d_X12_card_230 ?_
      refine V_iload_n (j := 3) C d_X12_card_231 rfl rfl ?_
      refine V_bipush (v := 10) C d_X12_card_232 rfl ?_
      refine V_idiv C d_X12_card_234 (okc rfl) h (fun h => ?_)
      refine V_bipush (v := 10) C d_X12_card_235 rfl ?_
      refine V_irem C d_X12_card_237 (okc rfl) h (fun h => ?_)
      refine V_iast C d_X12_card_238 (ok_wr _) (ok_I _) h (fun M12 h => ?_)
      refine V_aload_n (j := 0) C d_X12_card_239 rfl rfl ?_
      refine V_getR C ck_12 fw_X12_9 d_X12_card_240 h (fun v13 h => ?_)
      refine V_iload (j := 5) C d_X12_card_243 rfl ?_
      refine V_bipush (v := 12) C d_X12_card_245 rfl ?_
      refine V_iadd C d_X12_card_247 ?_
      refine V_iload (j := 4) C d_X12_card_248 rfl ?_
      refine V_iast C d_X12_card_250 (ok_wr _) o_x4 h (fun M14 h => ?_)
      refine V_aload_n (j := 0) C d_X12_card_251 rfl rfl ?_
      refine V_getR C ck_12 fw_X12_9 d_X12_card_252 h (fun v15 h => ?_)
      refine V_iload (j := 5) C d_X12_card_255 rfl ?_
      refine V_bipush (v := 13) C d_X12_card_257 rfl ?_
      refine V_iadd C d_X12_card_259 ?_
      refine V_iload_n (j := 3) C d_X12_card_260 rfl rfl ?_
      refine V_bipush (v := 10) C d_X12_card_261 rfl ?_
      refine V_irem C d_X12_card_263 (okc rfl) h (fun h => ?_)
      refine V_iast C d_X12_card_264 (ok_wr _) (ok_I _) h (fun M16 h => ?_)
      refine V_aload_n (j := 0) C d_X12_card_265 rfl rfl ?_
      refine V_getR C ck_12 fw_X12_9 d_X12_card_266 h (fun v17 h => ?_)
      refine V_sipush (v := 1062) C d_X12_card_269 rfl ?_
      refine V_dup2 C d_X12_card_272 rfl rfl ?_
      refine V_iald C d_X12_card_273 (okc rfl) h (fun v18 o18 h => ?_)
      refine V_iconst C d_X12_card_274 ?_
      refine V_iadd C d_X12_card_275 ?_
      refine V_iast C d_X12_card_276 (okc rfl) (ok_wr _) h (fun M19 h => ?_)
      refine V_aload_n (j := 0) C d_X12_card_277 rfl rfl ?_
      refine V_getR C ck_12 fw_X12_9 d_X12_card_278 h (fun v20 h => ?_)
      refine V_sipush (v := 1062) C d_X12_card_281 rfl ?_
      refine V_iald C d_X12_card_284 (okc rfl) h (fun v21 o21 h => ?_)
      refine V_iconst C d_X12_card_285 ?_
      refine V_isub C d_X12_card_286 ?_
      exact V_iret_w C hR d_X12_card_287 (ok_wr _) h
set_option maxHeartbeats 4000000 in
set_option maxRecDepth 100000 in
theorem t_X12_card_116 {X : XT_x} {G : GT_g} {z : (Mem_m × Int)} (C : Cx_ (K_X12_card) X G) (hR : Rx_ X G (some .int)) (x0 : Nat) (x1 : Int) (x2 : Int) (x3 : Int) (x4 : Int) (x6 : Int) (o_x1 : ok_i x1) (o_x2 : ok_i x2) (o_x3 : ok_i x3) (o_x4 : ok_i x4) (o_x6 : ok_i x6) : ∀ (n : Nat) (M : Mem_m) (x7 : Int) (o_x7 : ok_i x7), f_X12_card_116 G.2.2.2 x0 x1 x2 x3 x4 x6 n M x7 = some z → V_ (K_X12_card) X G (Fq_ X G (Qi_ G z.1 z.2)) M 116 [(0, .ref (G.1 + x0)), (1, iv_i x1), (2, iv_i x2), (3, iv_i x3), (4, iv_i x4), (6, iv_i x6), (7, iv_i x7)] [] := by
  intro n
  induction n with
  | zero => intro M x7 o_x7 h; exact absurd h (by simp [f_X12_card_116])
  | succ n ih =>
    intro M x7 o_x7 h
    unfold f_X12_card_116 at h
    refine V_iload (j := 6) C d_X12_card_116 rfl ?_
    refine V_bipush (v := 15) C d_X12_card_118 rfl ?_
    refine V_icmp_ge (tgt := 140) C d_X12_card_120 (by decide) o_x7 (okc rfl) h (fun h => ?_) (fun h => ?_)
    · skip
      refine V_aload_n (j := 0) C d_X12_card_123 rfl rfl ?_
      refine V_getR C ck_12 fw_X12_9 d_X12_card_124 h (fun v1 h => ?_)
      refine V_iload (j := 5) C d_X12_card_127 rfl ?_
      refine V_iload (j := 6) C d_X12_card_129 rfl ?_
      refine V_iadd C d_X12_card_131 ?_
      refine V_iconst C d_X12_card_132 ?_
      refine V_iast C d_X12_card_133 (ok_wr _) (okc rfl) h (fun M2 h => ?_)
      refine V_iinc (j := 6) (lv' := [(7, iv_i (wr_i (x7 + 1))), (0, .ref (G.1 + x0)), (1, iv_i x1), (2, iv_i x2), (3, iv_i x3), (4, iv_i x4), (6, iv_i x6)]) C d_X12_card_134 rfl (by decide) rfl ?_
      refine V_goto (tgt := 116) C d_X12_card_137 (by decide) ?_
      refine V_lv [1, 2, 3, 4, 5, 6, 0] rfl (ih M2 (wr_i (x7 + 1)) (ok_wr _) h)
    · skip
      refine V_aload_n (j := 0) C d_X12_card_140 rfl rfl ?_
      refine V_getR C ck_12 fw_X12_9 d_X12_card_141 h (fun v3 h => ?_)
      refine V_iload (j := 5) C d_X12_card_144 rfl ?_
      refine V_aload_n (j := 0) C d_X12_card_146 rfl rfl ?_
      refine V_getR C ck_12 fw_X12_22 d_X12_card_147 h (fun v4 h => ?_)
      refine V_iload_n (j := 1) C d_X12_card_150 rfl rfl ?_
      refine V_iald C d_X12_card_151 o_x1 h (fun v5 o5 h => ?_)
      refine V_iast C d_X12_card_152 o_x6 o5 h (fun M6 h => ?_)
      refine V_iconst C d_X12_card_153 ?_
      refine V_istore (lv' := [(7, iv_i 0), (0, .ref (G.1 + x0)), (1, iv_i x1), (2, iv_i x2), (3, iv_i x3), (4, iv_i x4), (6, iv_i x6)]) C d_X12_card_154 (by decide) rfl ?_
      refine V_lv [1, 2, 3, 4, 5, 6, 0] rfl (t_X12_card_156 C hR x0 x1 x2 x3 x4 x6 o_x1 o_x2 o_x3 o_x4 o_x6 FU_ M6 0 (okc rfl) h)
set_option maxHeartbeats 4000000 in
set_option maxRecDepth 100000 in
theorem t_X12_card {X : XT_x} {G : GT_g} {M : Mem_m} {z : (Mem_m × Int)} (C : Cx_ (K_X12_card) X G) (hR : Rx_ X G (some .int)) (x0 : Nat) (x1 : Int) (x2 : Int) (x3 : Int) (x4 : Int) (o_x1 : ok_i x1) (o_x2 : ok_i x2) (o_x3 : ok_i x3) (o_x4 : ok_i x4) (h : f_X12_card G.2.2.2 M x0 x1 x2 x3 x4 = some z) : V_ (K_X12_card) X G (Fq_ X G (Qi_ G z.1 z.2)) M 0 [(0, .ref (G.1 + x0)), (1, iv_i x1), (2, iv_i x2), (3, iv_i x3), (4, iv_i x4)] [] := by
  unfold f_X12_card at h
  refine V_iload_n (j := 1) C d_X12_card_0 rfl rfl ?_
  refine V_callSri (K' := K_X12_isShelf) (av := [iv_i x1]) (rest := []) ys_X12_isShelf C (yk_X12_isShelf) l1_X12_75 (by decide) d_X12_card_1 (fun v hv => ct_X12_isShelf x1 o_x1 hv) rfl rfl (Nat.le_of_ble_eq_true rfl) h (fun v1 o1 h => ?_)
  refine V_if_eq (tgt := 64) C d_X12_card_4 (by decide) o1 h (fun h => ?_) (fun h => ?_)
  · skip
    refine V_iconst C d_X12_card_64 ?_
    exact V_iret_w C hR d_X12_card_65 (okc rfl) h
  · skip
    refine V_iload_n (j := 2) C d_X12_card_7 rfl rfl ?_
    refine V_i2l C d_X12_card_8 o_x2 ?_
    refine V_lconst0 C d_X12_card_9 ?_
    refine V_ldc2 (v := 1023) C d_X12_card_10 cl_X12_85 ?_
    refine V_callSri (K' := K_X12_isIn) (av := [jv_i x2, jv_i 0, jv_i 1023]) (rest := []) ys_X12_isIn C (yk_X12_isIn) l1_X12_69 (by decide) d_X12_card_13 (fun v hv => ct_X12_isIn x2 0 1023 o_x2 (okc rfl) (okc rfl) hv) rfl rfl (Nat.le_of_ble_eq_true rfl) h (fun v2 o2 h => ?_)
    refine V_if_eq (tgt := 64) C d_X12_card_16 (by decide) o2 h (fun h => ?_) (fun h => ?_)
    · skip
      refine V_iconst C d_X12_card_64 ?_
      exact V_iret_w C hR d_X12_card_65 (okc rfl) h
    · skip
      refine V_iload_n (j := 3) C d_X12_card_19 rfl rfl ?_
      refine V_if_lt (tgt := 64) C d_X12_card_20 (by decide) o_x3 h (fun h => ?_) (fun h => ?_)
      · skip
        refine V_iconst C d_X12_card_64 ?_
        exact V_iret_w C hR d_X12_card_65 (okc rfl) h
      · skip
        refine V_iload_n (j := 3) C d_X12_card_23 rfl rfl ?_
        refine V_bipush (v := 100) C d_X12_card_24 rfl ?_
        refine V_idiv C d_X12_card_26 (okc rfl) h (fun h => ?_)
        refine V_bipush (v := 7) C d_X12_card_27 rfl ?_
        refine V_icmp_gt (tgt := 64) C d_X12_card_29 (by decide) (ok_I _) (okc rfl) h (fun h => ?_) (fun h => ?_)
        · skip
          refine V_iload_n (j := 3) C d_X12_card_32 rfl rfl ?_
          refine V_bipush (v := 10) C d_X12_card_33 rfl ?_
          refine V_idiv C d_X12_card_35 (okc rfl) h (fun h => ?_)
          refine V_bipush (v := 10) C d_X12_card_36 rfl ?_
          refine V_irem C d_X12_card_38 (okc rfl) h (fun h => ?_)
          refine V_iconst C d_X12_card_39 ?_
          refine V_icmp_gt (tgt := 64) C d_X12_card_40 (by decide) (ok_I _) (okc rfl) h (fun h => ?_) (fun h => ?_)
          · skip
            refine V_iload_n (j := 3) C d_X12_card_43 rfl rfl ?_
            refine V_bipush (v := 10) C d_X12_card_44 rfl ?_
            refine V_irem C d_X12_card_46 (okc rfl) h (fun h => ?_)
            refine V_iconst C d_X12_card_47 ?_
            refine V_icmp_gt (tgt := 64) C d_X12_card_48 (by decide) (ok_I _) (okc rfl) h (fun h => ?_) (fun h => ?_)
            · skip
              refine V_iload (j := 4) C d_X12_card_51 rfl ?_
              refine V_i2l C d_X12_card_53 o_x4 ?_
              refine V_lconst0 C d_X12_card_54 ?_
              refine V_ldc2 (v := 999) C d_X12_card_55 cl_X12_87 ?_
              refine V_callSri (K' := K_X12_isIn) (av := [jv_i x4, jv_i 0, jv_i 999]) (rest := []) ys_X12_isIn C (yk_X12_isIn) l1_X12_69 (by decide) d_X12_card_58 (fun v hv => ct_X12_isIn x4 0 999 o_x4 (okc rfl) (okc rfl) hv) rfl rfl (Nat.le_of_ble_eq_true rfl) h (fun v3 o3 h => ?_)
              refine V_if_ne (tgt := 66) C d_X12_card_61 (by decide) o3 h (fun h => ?_) (fun h => ?_)
              · skip
                refine V_iconst C d_X12_card_64 ?_
                exact V_iret_w C hR d_X12_card_65 (okc rfl) h
              · skip
                refine V_aload_n (j := 0) C d_X12_card_66 rfl rfl ?_
                refine V_getR C ck_12 fw_X12_9 d_X12_card_67 h (fun v4 h => ?_)
                refine V_sipush (v := 1062) C d_X12_card_70 rfl ?_
                refine V_iald C d_X12_card_73 (okc rfl) h (fun v5 o5 h => ?_)
                refine V_bipush (v := 40) C d_X12_card_74 rfl ?_
                refine V_icmp_ne (tgt := 82) C d_X12_card_76 (by decide) o5 (okc rfl) h (fun h => ?_) (fun h => ?_)
                · skip
                  refine V_bipush (v := (-2)) C d_X12_card_79 rfl ?_
                  exact V_iret_w C hR d_X12_card_81 (okc rfl) h
                · skip
                  refine V_aload_n (j := 0) C d_X12_card_82 rfl rfl ?_
                  refine V_iload_n (j := 1) C d_X12_card_83 rfl rfl ?_
                  refine V_iconst C d_X12_card_84 ?_
                  refine V_bipush (v := 8) C d_X12_card_85 rfl ?_
                  refine V_callVri (K' := K_X12_wrongSounds) (a := x0) (ci := 12) (av := [iv_i x1, iv_i 1, iv_i 8]) (rest := []) yi_X12_wrongSounds (by decide) rfl C (yk_X12_wrongSounds) l1_X12_89 (by decide) d_X12_card_87 (fun v hv => ct_X12_wrongSounds x0 x1 1 8 o_x1 (okc rfl) (okc rfl) hv) rfl rfl (Nat.le_of_ble_eq_true rfl) h (fun v6 o6 h => ?_)
                  refine V_istore (lv' := [(5, iv_i v6), (0, .ref (G.1 + x0)), (1, iv_i x1), (2, iv_i x2), (3, iv_i x3), (4, iv_i x4)]) C d_X12_card_90 (by decide) rfl ?_
                  refine V_iload (j := 0) C d_X12_card_92 rfl ?_
                  refine V_if_eq (tgt := 100) C d_X12_card_94 (by decide) o6 h (fun h => ?_) (fun h => ?_)
                  · skip
                    refine V_bipush (v := 15) C d_X12_card_100 rfl ?_
                    refine V_aload_n (j := 1) C d_X12_card_102 rfl rfl ?_
                    refine V_getR C ck_12 fw_X12_9 d_X12_card_103 h (fun v7 h => ?_)
                    refine V_sipush (v := 1062) C d_X12_card_106 rfl ?_
                    refine V_iald C d_X12_card_109 (okc rfl) h (fun v8 o8 h => ?_)
                    refine V_imul C d_X12_card_110 ?_
                    refine V_istore (lv' := [(6, iv_i (wr_i (15 * v8))), (5, iv_i v6), (0, .ref (G.1 + x0)), (1, iv_i x1), (2, iv_i x2), (3, iv_i x3), (4, iv_i x4)]) C d_X12_card_111 (by decide) rfl ?_
                    refine V_iconst C d_X12_card_113 ?_
                    refine V_istore (lv' := [(7, iv_i 0), (6, iv_i (wr_i (15 * v8))), (5, iv_i v6), (0, .ref (G.1 + x0)), (1, iv_i x1), (2, iv_i x2), (3, iv_i x3), (4, iv_i x4)]) C d_X12_card_114 (by decide) rfl ?_
                    refine V_lv [3, 4, 5, 6, 7, 1, 0] rfl (t_X12_card_116 C hR x0 x1 x2 x3 x4 (wr_i (15 * v8)) o_x1 o_x2 o_x3 o_x4 (ok_wr _) FU_ M 0 (okc rfl) h)
                  · skip
                    refine V_iload (j := 0) C d_X12_card_97 rfl ?_
                    exact V_iret_w C hR d_X12_card_99 o6 h
            · skip
              refine V_iconst C d_X12_card_64 ?_
              exact V_iret_w C hR d_X12_card_65 (okc rfl) h
          · skip
            refine V_iconst C d_X12_card_64 ?_
            exact V_iret_w C hR d_X12_card_65 (okc rfl) h
        · skip
          refine V_iconst C d_X12_card_64 ?_
          exact V_iret_w C hR d_X12_card_65 (okc rfl) h
set_option maxHeartbeats 4000000 in
set_option maxRecDepth 100000 in
theorem ct_X12_card {l : Launch} {G : GT_g} {M : Mem_m} (x0 : Nat) (x1 : Int) (x2 : Int) (x3 : Int) (x4 : Int) (o_x1 : ok_i x1) (o_x2 : ok_i x2) (o_x3 : ok_i x3) (o_x4 : ok_i x4) {z : (Mem_m × Int)} (h : f_X12_card G.2.2.2 M x0 x1 x2 x3 x4 = some z) : MI_ l yX12_card K_X12_card (some .int) G M [.ref (G.1 + x0), iv_i x1, iv_i x2, iv_i x3, iv_i x4] z.1 z.2 :=
  met_of (by decide +kernel) rfl (Nat.le_of_ble_eq_true rfl) (fun X hl C hR => by subst hl; exact t_X12_card C hR x0 x1 x2 x3 x4 o_x1 o_x2 o_x3 o_x4 h)
theorem d_X12_about_0 : decode cX12_about 0 = .ok (.aload_n 0, 1) := by decide +kernel
theorem d_X12_about_1 : decode cX12_about 1 = .ok (.iload_n 1, 1) := by decide +kernel
theorem d_X12_about_2 : decode cX12_about 2 = .ok (.invokevirtual 93, 3) := by decide +kernel
theorem d_X12_about_5 : decode cX12_about 5 = .ok (.ifCond .eq 35, 3) := by decide +kernel
theorem d_X12_about_8 : decode cX12_about 8 = .ok (.iload_n 2, 1) := by decide +kernel
theorem d_X12_about_9 : decode cX12_about 9 = .ok (.i2l, 1) := by decide +kernel
theorem d_X12_about_10 : decode cX12_about 10 = .ok (.lconst 0, 1) := by decide +kernel
theorem d_X12_about_11 : decode cX12_about 11 = .ok (.ldc2_w 96, 3) := by decide +kernel
theorem d_X12_about_14 : decode cX12_about 14 = .ok (.invokestatic 69, 3) := by decide +kernel
theorem d_X12_about_17 : decode cX12_about 17 = .ok (.ifCond .eq 23, 3) := by decide +kernel
theorem d_X12_about_20 : decode cX12_about 20 = .ok (.aload_n 0, 1) := by decide +kernel
theorem d_X12_about_21 : decode cX12_about 21 = .ok (.iload_n 1, 1) := by decide +kernel
theorem d_X12_about_22 : decode cX12_about 22 = .ok (.iload_n 2, 1) := by decide +kernel
theorem d_X12_about_23 : decode cX12_about 23 = .ok (.ifCond .ne 7, 3) := by decide +kernel
theorem d_X12_about_26 : decode cX12_about 26 = .ok (.iconst 0, 1) := by decide +kernel
theorem d_X12_about_27 : decode cX12_about 27 = .ok (.goto 7, 3) := by decide +kernel
theorem d_X12_about_30 : decode cX12_about 30 = .ok (.iload_n 2, 1) := by decide +kernel
theorem d_X12_about_31 : decode cX12_about 31 = .ok (.bipush 8, 2) := by decide +kernel
theorem d_X12_about_33 : decode cX12_about 33 = .ok (.iadd, 1) := by decide +kernel
theorem d_X12_about_34 : decode cX12_about 34 = .ok (.invokevirtual 98, 3) := by decide +kernel
theorem d_X12_about_37 : decode cX12_about 37 = .ok (.goto 4, 3) := by decide +kernel
theorem d_X12_about_40 : decode cX12_about 40 = .ok (.iconst (-1), 1) := by decide +kernel
theorem d_X12_about_41 : decode cX12_about 41 = .ok (.ireturn, 1) := by decide +kernel
set_option maxHeartbeats 4000000 in
set_option maxRecDepth 100000 in
theorem t_X12_about_34 {X : XT_x} {G : GT_g} {z : Int} (C : Cx_ (K_X12_about) X G) (hR : Rx_ X G (some .int)) (M : Mem_m) (s0 : Int) (s1 : Int) (s2 : Nat) (o_s0 : ok_i s0) (o_s1 : ok_i s1) (h : f_X12_about_34 G.2.2.2 M s0 s1 s2 = some z) : V_ (K_X12_about) X G (Fq_ X G (Qi_ G M z)) M 34 [] [iv_i s0, iv_i s1, .ref (G.1 + s2)] := by
  unfold f_X12_about_34 at h
  refine V_callVri (K' := K_X12_of) (a := s2) (ci := 12) (av := [iv_i s1, iv_i s0]) (rest := []) yi_X12_of (by decide) rfl C (yk_X12_of) l1_X12_98 (by decide) d_X12_about_34 (fun v hv => ct_X12_of s2 s1 s0 o_s1 o_s0 hv) rfl rfl (Nat.le_of_ble_eq_true rfl) h (fun v1 o1 h => ?_)
  refine V_goto (tgt := 41) C d_X12_about_37 (by decide) ?_
  exact V_iret_r C hR d_X12_about_41 o1 h
set_option maxHeartbeats 4000000 in
set_option maxRecDepth 100000 in
theorem t_X12_about {X : XT_x} {G : GT_g} {M : Mem_m} {z : Int} (C : Cx_ (K_X12_about) X G) (hR : Rx_ X G (some .int)) (x0 : Nat) (x1 : Int) (x2 : Int) (o_x1 : ok_i x1) (o_x2 : ok_i x2) (h : f_X12_about G.2.2.2 M x0 x1 x2 = some z) : V_ (K_X12_about) X G (Fq_ X G (Qi_ G M z)) M 0 [(0, .ref (G.1 + x0)), (1, iv_i x1), (2, iv_i x2)] [] := by
  unfold f_X12_about at h
  refine V_aload_n (j := 0) C d_X12_about_0 rfl rfl ?_
  refine V_iload_n (j := 1) C d_X12_about_1 rfl rfl ?_
  refine V_callVri (K' := K_X12_isCard) (a := x0) (ci := 12) (av := [iv_i x1]) (rest := []) yi_X12_isCard (by decide) rfl C (yk_X12_isCard) l1_X12_93 (by decide) d_X12_about_2 (fun v hv => ct_X12_isCard x0 x1 o_x1 hv) rfl rfl (Nat.le_of_ble_eq_true rfl) h (fun v1 o1 h => ?_)
  refine V_if_eq (tgt := 40) C d_X12_about_5 (by decide) o1 h (fun h => ?_) (fun h => ?_)
  · skip
    refine V_iconst C d_X12_about_40 ?_
    exact V_iret_r C hR d_X12_about_41 (okc rfl) h
  · skip
    refine V_iload_n (j := 2) C d_X12_about_8 rfl rfl ?_
    refine V_i2l C d_X12_about_9 o_x2 ?_
    refine V_lconst0 C d_X12_about_10 ?_
    refine V_ldc2 (v := 6) C d_X12_about_11 cl_X12_96 ?_
    refine V_callSri (K' := K_X12_isIn) (av := [jv_i x2, jv_i 0, jv_i 6]) (rest := []) ys_X12_isIn C (yk_X12_isIn) l1_X12_69 (by decide) d_X12_about_14 (fun v hv => ct_X12_isIn x2 0 6 o_x2 (okc rfl) (okc rfl) hv) rfl rfl (Nat.le_of_ble_eq_true rfl) h (fun v2 o2 h => ?_)
    refine V_if_eq (tgt := 40) C d_X12_about_17 (by decide) o2 h (fun h => ?_) (fun h => ?_)
    · skip
      refine V_iconst C d_X12_about_40 ?_
      exact V_iret_r C hR d_X12_about_41 (okc rfl) h
    · skip
      refine V_aload_n (j := 0) C d_X12_about_20 rfl rfl ?_
      refine V_iload_n (j := 1) C d_X12_about_21 rfl rfl ?_
      refine V_iload_n (j := 2) C d_X12_about_22 rfl rfl ?_
      refine V_if_ne (tgt := 30) C d_X12_about_23 (by decide) o_x2 h (fun h => ?_) (fun h => ?_)
      · skip
        refine V_iconst C d_X12_about_26 ?_
        refine V_goto (tgt := 34) C d_X12_about_27 (by decide) ?_
        refine V_lv [] rfl (t_X12_about_34 C hR M 0 x1 x0 (okc rfl) o_x1 h)
      · skip
        refine V_iload_n (j := 2) C d_X12_about_30 rfl rfl ?_
        refine V_bipush (v := 8) C d_X12_about_31 rfl ?_
        refine V_iadd C d_X12_about_33 ?_
        refine V_lv [] rfl (t_X12_about_34 C hR M (wr_i (x2 + 8)) x1 x0 (ok_wr _) o_x1 h)
set_option maxHeartbeats 4000000 in
set_option maxRecDepth 100000 in
theorem ct_X12_about {l : Launch} {G : GT_g} {M : Mem_m} (x0 : Nat) (x1 : Int) (x2 : Int) (o_x1 : ok_i x1) (o_x2 : ok_i x2) {z : Int} (h : f_X12_about G.2.2.2 M x0 x1 x2 = some z) : MI_ l yX12_about K_X12_about (some .int) G M [.ref (G.1 + x0), iv_i x1, iv_i x2] M z :=
  met_of (by decide +kernel) rfl (Nat.le_of_ble_eq_true rfl) (fun X hl C hR => by subst hl; exact t_X12_about C hR x0 x1 x2 o_x1 o_x2 h)
theorem d_X12_sound_0 : decode cX12_sound 0 = .ok (.aload_n 0, 1) := by decide +kernel
theorem d_X12_sound_1 : decode cX12_sound 1 = .ok (.iload_n 1, 1) := by decide +kernel
theorem d_X12_sound_2 : decode cX12_sound 2 = .ok (.invokevirtual 93, 3) := by decide +kernel
theorem d_X12_sound_5 : decode cX12_sound 5 = .ok (.ifCond .eq 32, 3) := by decide +kernel
theorem d_X12_sound_8 : decode cX12_sound 8 = .ok (.iload_n 2, 1) := by decide +kernel
theorem d_X12_sound_9 : decode cX12_sound 9 = .ok (.i2l, 1) := by decide +kernel
theorem d_X12_sound_10 : decode cX12_sound 10 = .ok (.lconst 0, 1) := by decide +kernel
theorem d_X12_sound_11 : decode cX12_sound 11 = .ok (.aload_n 0, 1) := by decide +kernel
theorem d_X12_sound_12 : decode cX12_sound 12 = .ok (.iload_n 1, 1) := by decide +kernel
theorem d_X12_sound_13 : decode cX12_sound 13 = .ok (.iconst 0, 1) := by decide +kernel
theorem d_X12_sound_14 : decode cX12_sound 14 = .ok (.invokevirtual 98, 3) := by decide +kernel
theorem d_X12_sound_17 : decode cX12_sound 17 = .ok (.iconst 1, 1) := by decide +kernel
theorem d_X12_sound_18 : decode cX12_sound 18 = .ok (.isub, 1) := by decide +kernel
theorem d_X12_sound_19 : decode cX12_sound 19 = .ok (.i2l, 1) := by decide +kernel
theorem d_X12_sound_20 : decode cX12_sound 20 = .ok (.invokestatic 69, 3) := by decide +kernel
theorem d_X12_sound_23 : decode cX12_sound 23 = .ok (.ifCond .eq 14, 3) := by decide +kernel
theorem d_X12_sound_26 : decode cX12_sound 26 = .ok (.aload_n 0, 1) := by decide +kernel
theorem d_X12_sound_27 : decode cX12_sound 27 = .ok (.iload_n 1, 1) := by decide +kernel
theorem d_X12_sound_28 : decode cX12_sound 28 = .ok (.iconst 1, 1) := by decide +kernel
theorem d_X12_sound_29 : decode cX12_sound 29 = .ok (.iload_n 2, 1) := by decide +kernel
theorem d_X12_sound_30 : decode cX12_sound 30 = .ok (.iadd, 1) := by decide +kernel
theorem d_X12_sound_31 : decode cX12_sound 31 = .ok (.invokevirtual 98, 3) := by decide +kernel
theorem d_X12_sound_34 : decode cX12_sound 34 = .ok (.goto 4, 3) := by decide +kernel
theorem d_X12_sound_37 : decode cX12_sound 37 = .ok (.iconst (-1), 1) := by decide +kernel
theorem d_X12_sound_38 : decode cX12_sound 38 = .ok (.ireturn, 1) := by decide +kernel
set_option maxHeartbeats 4000000 in
set_option maxRecDepth 100000 in
theorem t_X12_sound {X : XT_x} {G : GT_g} {M : Mem_m} {z : Int} (C : Cx_ (K_X12_sound) X G) (hR : Rx_ X G (some .int)) (x0 : Nat) (x1 : Int) (x2 : Int) (o_x1 : ok_i x1) (o_x2 : ok_i x2) (h : f_X12_sound G.2.2.2 M x0 x1 x2 = some z) : V_ (K_X12_sound) X G (Fq_ X G (Qi_ G M z)) M 0 [(0, .ref (G.1 + x0)), (1, iv_i x1), (2, iv_i x2)] [] := by
  unfold f_X12_sound at h
  refine V_aload_n (j := 0) C d_X12_sound_0 rfl rfl ?_
  refine V_iload_n (j := 1) C d_X12_sound_1 rfl rfl ?_
  refine V_callVri (K' := K_X12_isCard) (a := x0) (ci := 12) (av := [iv_i x1]) (rest := []) yi_X12_isCard (by decide) rfl C (yk_X12_isCard) l1_X12_93 (by decide) d_X12_sound_2 (fun v hv => ct_X12_isCard x0 x1 o_x1 hv) rfl rfl (Nat.le_of_ble_eq_true rfl) h (fun v1 o1 h => ?_)
  refine V_if_eq (tgt := 37) C d_X12_sound_5 (by decide) o1 h (fun h => ?_) (fun h => ?_)
  · skip
    refine V_iconst C d_X12_sound_37 ?_
    exact V_iret_r C hR d_X12_sound_38 (okc rfl) h
  · skip
    refine V_iload_n (j := 2) C d_X12_sound_8 rfl rfl ?_
    refine V_i2l C d_X12_sound_9 o_x2 ?_
    refine V_lconst0 C d_X12_sound_10 ?_
    refine V_aload_n (j := 0) C d_X12_sound_11 rfl rfl ?_
    refine V_iload_n (j := 1) C d_X12_sound_12 rfl rfl ?_
    refine V_iconst C d_X12_sound_13 ?_
    refine V_callVri (K' := K_X12_of) (a := x0) (ci := 12) (av := [iv_i x1, iv_i 0]) (rest := [jv_i 0, jv_i x2]) yi_X12_of (by decide) rfl C (yk_X12_of) l1_X12_98 (by decide) d_X12_sound_14 (fun v hv => ct_X12_of x0 x1 0 o_x1 (okc rfl) hv) rfl rfl (Nat.le_of_ble_eq_true rfl) h (fun v2 o2 h => ?_)
    refine V_iconst C d_X12_sound_17 ?_
    refine V_isub C d_X12_sound_18 ?_
    refine V_i2l C d_X12_sound_19 (ok_wr _) ?_
    refine V_callSri (K' := K_X12_isIn) (av := [jv_i x2, jv_i 0, jv_i (wr_i (v2 - 1))]) (rest := []) ys_X12_isIn C (yk_X12_isIn) l1_X12_69 (by decide) d_X12_sound_20 (fun v hv => ct_X12_isIn x2 0 (wr_i (v2 - 1)) o_x2 (okc rfl) (ok_wr _) hv) rfl rfl (Nat.le_of_ble_eq_true rfl) h (fun v3 o3 h => ?_)
    refine V_if_eq (tgt := 37) C d_X12_sound_23 (by decide) o3 h (fun h => ?_) (fun h => ?_)
    · skip
      refine V_iconst C d_X12_sound_37 ?_
      exact V_iret_r C hR d_X12_sound_38 (okc rfl) h
    · skip
      refine V_aload_n (j := 0) C d_X12_sound_26 rfl rfl ?_
      refine V_iload_n (j := 1) C d_X12_sound_27 rfl rfl ?_
      refine V_iconst C d_X12_sound_28 ?_
      refine V_iload_n (j := 2) C d_X12_sound_29 rfl rfl ?_
      refine V_iadd C d_X12_sound_30 ?_
      refine V_callVri (K' := K_X12_of) (a := x0) (ci := 12) (av := [iv_i x1, iv_i (wr_i (1 + x2))]) (rest := []) yi_X12_of (by decide) rfl C (yk_X12_of) l1_X12_98 (by decide) d_X12_sound_31 (fun v hv => ct_X12_of x0 x1 (wr_i (1 + x2)) o_x1 (ok_wr _) hv) rfl rfl (Nat.le_of_ble_eq_true rfl) h (fun v4 o4 h => ?_)
      refine V_goto (tgt := 38) C d_X12_sound_34 (by decide) ?_
      exact V_iret_r C hR d_X12_sound_38 o4 h
set_option maxHeartbeats 4000000 in
set_option maxRecDepth 100000 in
theorem ct_X12_sound {l : Launch} {G : GT_g} {M : Mem_m} (x0 : Nat) (x1 : Int) (x2 : Int) (o_x1 : ok_i x1) (o_x2 : ok_i x2) {z : Int} (h : f_X12_sound G.2.2.2 M x0 x1 x2 = some z) : MI_ l yX12_sound K_X12_sound (some .int) G M [.ref (G.1 + x0), iv_i x1, iv_i x2] M z :=
  met_of (by decide +kernel) rfl (Nat.le_of_ble_eq_true rfl) (fun X hl C hR => by subst hl; exact t_X12_sound C hR x0 x1 x2 o_x1 o_x2 h)
theorem d_X12_classOf_0 : decode cX12_classOf 0 = .ok (.iload_n 1, 1) := by decide +kernel
theorem d_X12_classOf_1 : decode cX12_classOf 1 = .ok (.i2l, 1) := by decide +kernel
theorem d_X12_classOf_2 : decode cX12_classOf 2 = .ok (.lconst 0, 1) := by decide +kernel
theorem d_X12_classOf_3 : decode cX12_classOf 3 = .ok (.ldc2_w 83, 3) := by decide +kernel
theorem d_X12_classOf_6 : decode cX12_classOf 6 = .ok (.invokestatic 69, 3) := by decide +kernel
theorem d_X12_classOf_9 : decode cX12_classOf 9 = .ok (.ifCond .eq 28, 3) := by decide +kernel
theorem d_X12_classOf_12 : decode cX12_classOf 12 = .ok (.iload_n 2, 1) := by decide +kernel
theorem d_X12_classOf_13 : decode cX12_classOf 13 = .ok (.i2l, 1) := by decide +kernel
theorem d_X12_classOf_14 : decode cX12_classOf 14 = .ok (.lconst 0, 1) := by decide +kernel
theorem d_X12_classOf_15 : decode cX12_classOf 15 = .ok (.ldc2_w 101, 3) := by decide +kernel
theorem d_X12_classOf_18 : decode cX12_classOf 18 = .ok (.invokestatic 69, 3) := by decide +kernel
theorem d_X12_classOf_21 : decode cX12_classOf 21 = .ok (.ifCond .eq 16, 3) := by decide +kernel
theorem d_X12_classOf_24 : decode cX12_classOf 24 = .ok (.aload_n 0, 1) := by decide +kernel
theorem d_X12_classOf_25 : decode cX12_classOf 25 = .ok (.sipush 1036, 3) := by decide +kernel
theorem d_X12_classOf_28 : decode cX12_classOf 28 = .ok (.iload_n 1, 1) := by decide +kernel
theorem d_X12_classOf_29 : decode cX12_classOf 29 = .ok (.iadd, 1) := by decide +kernel
theorem d_X12_classOf_30 : decode cX12_classOf 30 = .ok (.iload_n 2, 1) := by decide +kernel
theorem d_X12_classOf_31 : decode cX12_classOf 31 = .ok (.invokevirtual 103, 3) := by decide +kernel
theorem d_X12_classOf_34 : decode cX12_classOf 34 = .ok (.goto 4, 3) := by decide +kernel
theorem d_X12_classOf_37 : decode cX12_classOf 37 = .ok (.iconst (-1), 1) := by decide +kernel
theorem d_X12_classOf_38 : decode cX12_classOf 38 = .ok (.ireturn, 1) := by decide +kernel
set_option maxHeartbeats 4000000 in
set_option maxRecDepth 100000 in
theorem t_X12_classOf {X : XT_x} {G : GT_g} {M : Mem_m} {z : (Mem_m × Int)} (C : Cx_ (K_X12_classOf) X G) (hR : Rx_ X G (some .int)) (x0 : Nat) (x1 : Int) (x2 : Int) (o_x1 : ok_i x1) (o_x2 : ok_i x2) (h : f_X12_classOf G.2.2.2 M x0 x1 x2 = some z) : V_ (K_X12_classOf) X G (Fq_ X G (Qi_ G z.1 z.2)) M 0 [(0, .ref (G.1 + x0)), (1, iv_i x1), (2, iv_i x2)] [] := by
  unfold f_X12_classOf at h
  refine V_iload_n (j := 1) C d_X12_classOf_0 rfl rfl ?_
  refine V_i2l C d_X12_classOf_1 o_x1 ?_
  refine V_lconst0 C d_X12_classOf_2 ?_
  refine V_ldc2 (v := 9) C d_X12_classOf_3 cl_X12_83 ?_
  refine V_callSri (K' := K_X12_isIn) (av := [jv_i x1, jv_i 0, jv_i 9]) (rest := []) ys_X12_isIn C (yk_X12_isIn) l1_X12_69 (by decide) d_X12_classOf_6 (fun v hv => ct_X12_isIn x1 0 9 o_x1 (okc rfl) (okc rfl) hv) rfl rfl (Nat.le_of_ble_eq_true rfl) h (fun v1 o1 h => ?_)
  refine V_if_eq (tgt := 37) C d_X12_classOf_9 (by decide) o1 h (fun h => ?_) (fun h => ?_)
  · skip
    refine V_iconst C d_X12_classOf_37 ?_
    exact V_iret_w C hR d_X12_classOf_38 (okc rfl) h
  · skip
    refine V_iload_n (j := 2) C d_X12_classOf_12 rfl rfl ?_
    refine V_i2l C d_X12_classOf_13 o_x2 ?_
    refine V_lconst0 C d_X12_classOf_14 ?_
    refine V_ldc2 (v := 3) C d_X12_classOf_15 cl_X12_101 ?_
    refine V_callSri (K' := K_X12_isIn) (av := [jv_i x2, jv_i 0, jv_i 3]) (rest := []) ys_X12_isIn C (yk_X12_isIn) l1_X12_69 (by decide) d_X12_classOf_18 (fun v hv => ct_X12_isIn x2 0 3 o_x2 (okc rfl) (okc rfl) hv) rfl rfl (Nat.le_of_ble_eq_true rfl) h (fun v2 o2 h => ?_)
    refine V_if_eq (tgt := 37) C d_X12_classOf_21 (by decide) o2 h (fun h => ?_) (fun h => ?_)
    · skip
      refine V_iconst C d_X12_classOf_37 ?_
      exact V_iret_w C hR d_X12_classOf_38 (okc rfl) h
    · skip
      refine V_aload_n (j := 0) C d_X12_classOf_24 rfl rfl ?_
      refine V_sipush (v := 1036) C d_X12_classOf_25 rfl ?_
      refine V_iload_n (j := 1) C d_X12_classOf_28 rfl rfl ?_
      refine V_iadd C d_X12_classOf_29 ?_
      refine V_iload_n (j := 2) C d_X12_classOf_30 rfl rfl ?_
      refine V_callVwi (K' := K_X12_becomes) (a := x0) (ci := 12) (av := [iv_i (wr_i (1036 + x1)), iv_i x2]) (rest := []) yi_X12_becomes (by decide) rfl C (yk_X12_becomes) l1_X12_103 (by decide) d_X12_classOf_31 (fun v hv => ct_X12_becomes x0 (wr_i (1036 + x1)) x2 (ok_wr _) o_x2 hv) rfl rfl (Nat.le_of_ble_eq_true rfl) h (fun z3 o3 h => ?_)
      refine V_goto (tgt := 38) C d_X12_classOf_34 (by decide) ?_
      exact V_iret_w C hR d_X12_classOf_38 o3 h
set_option maxHeartbeats 4000000 in
set_option maxRecDepth 100000 in
theorem ct_X12_classOf {l : Launch} {G : GT_g} {M : Mem_m} (x0 : Nat) (x1 : Int) (x2 : Int) (o_x1 : ok_i x1) (o_x2 : ok_i x2) {z : (Mem_m × Int)} (h : f_X12_classOf G.2.2.2 M x0 x1 x2 = some z) : MI_ l yX12_classOf K_X12_classOf (some .int) G M [.ref (G.1 + x0), iv_i x1, iv_i x2] z.1 z.2 :=
  met_of (by decide +kernel) rfl (Nat.le_of_ble_eq_true rfl) (fun X hl C hR => by subst hl; exact t_X12_classOf C hR x0 x1 x2 o_x1 o_x2 h)
theorem d_X12_speaker_0 : decode cX12_speaker 0 = .ok (.iload_n 1, 1) := by decide +kernel
theorem d_X12_speaker_1 : decode cX12_speaker 1 = .ok (.i2l, 1) := by decide +kernel
theorem d_X12_speaker_2 : decode cX12_speaker 2 = .ok (.lconst 0, 1) := by decide +kernel
theorem d_X12_speaker_3 : decode cX12_speaker 3 = .ok (.ldc2_w 73, 3) := by decide +kernel
theorem d_X12_speaker_6 : decode cX12_speaker 6 = .ok (.invokestatic 69, 3) := by decide +kernel
theorem d_X12_speaker_9 : decode cX12_speaker 9 = .ok (.ifCond .eq 35, 3) := by decide +kernel
theorem d_X12_speaker_12 : decode cX12_speaker 12 = .ok (.iload_n 2, 1) := by decide +kernel
theorem d_X12_speaker_13 : decode cX12_speaker 13 = .ok (.i2l, 1) := by decide +kernel
theorem d_X12_speaker_14 : decode cX12_speaker 14 = .ok (.lconst 0, 1) := by decide +kernel
theorem d_X12_speaker_15 : decode cX12_speaker 15 = .ok (.lconst 1, 1) := by decide +kernel
theorem d_X12_speaker_16 : decode cX12_speaker 16 = .ok (.invokestatic 69, 3) := by decide +kernel
theorem d_X12_speaker_19 : decode cX12_speaker 19 = .ok (.ifCond .eq 25, 3) := by decide +kernel
theorem d_X12_speaker_22 : decode cX12_speaker 22 = .ok (.iload_n 3, 1) := by decide +kernel
theorem d_X12_speaker_23 : decode cX12_speaker 23 = .ok (.i2l, 1) := by decide +kernel
theorem d_X12_speaker_24 : decode cX12_speaker 24 = .ok (.lconst 0, 1) := by decide +kernel
theorem d_X12_speaker_25 : decode cX12_speaker 25 = .ok (.iload_n 2, 1) := by decide +kernel
theorem d_X12_speaker_26 : decode cX12_speaker 26 = .ok (.ifCond .ne 9, 3) := by decide +kernel
theorem d_X12_speaker_29 : decode cX12_speaker 29 = .ok (.ldc2_w 101, 3) := by decide +kernel
theorem d_X12_speaker_32 : decode cX12_speaker 32 = .ok (.goto 6, 3) := by decide +kernel
theorem d_X12_speaker_35 : decode cX12_speaker 35 = .ok (.ldc2_w 106, 3) := by decide +kernel
theorem d_X12_speaker_38 : decode cX12_speaker 38 = .ok (.invokestatic 69, 3) := by decide +kernel
theorem d_X12_speaker_41 : decode cX12_speaker 41 = .ok (.ifCond .ne 5, 3) := by decide +kernel
theorem d_X12_speaker_44 : decode cX12_speaker 44 = .ok (.iconst (-1), 1) := by decide +kernel
theorem d_X12_speaker_45 : decode cX12_speaker 45 = .ok (.ireturn, 1) := by decide +kernel
theorem d_X12_speaker_46 : decode cX12_speaker 46 = .ok (.aload_n 0, 1) := by decide +kernel
theorem d_X12_speaker_47 : decode cX12_speaker 47 = .ok (.iload_n 2, 1) := by decide +kernel
theorem d_X12_speaker_48 : decode cX12_speaker 48 = .ok (.ifCond .ne 9, 3) := by decide +kernel
theorem d_X12_speaker_51 : decode cX12_speaker 51 = .ok (.sipush 1046, 3) := by decide +kernel
theorem d_X12_speaker_54 : decode cX12_speaker 54 = .ok (.goto 6, 3) := by decide +kernel
theorem d_X12_speaker_57 : decode cX12_speaker 57 = .ok (.sipush 1054, 3) := by decide +kernel
theorem d_X12_speaker_60 : decode cX12_speaker 60 = .ok (.iload_n 1, 1) := by decide +kernel
theorem d_X12_speaker_61 : decode cX12_speaker 61 = .ok (.iadd, 1) := by decide +kernel
theorem d_X12_speaker_62 : decode cX12_speaker 62 = .ok (.iload_n 3, 1) := by decide +kernel
theorem d_X12_speaker_63 : decode cX12_speaker 63 = .ok (.invokevirtual 103, 3) := by decide +kernel
theorem d_X12_speaker_66 : decode cX12_speaker 66 = .ok (.ireturn, 1) := by decide +kernel
set_option maxHeartbeats 4000000 in
set_option maxRecDepth 100000 in
theorem t_X12_speaker_60 {X : XT_x} {G : GT_g} {z : (Mem_m × Int)} (C : Cx_ (K_X12_speaker) X G) (hR : Rx_ X G (some .int)) (M : Mem_m) (x1 : Int) (x3 : Int) (s0 : Int) (s1 : Nat) (o_x1 : ok_i x1) (o_x3 : ok_i x3) (o_s0 : ok_i s0) (h : f_X12_speaker_60 G.2.2.2 M x1 x3 s0 s1 = some z) : V_ (K_X12_speaker) X G (Fq_ X G (Qi_ G z.1 z.2)) M 60 [(1, iv_i x1), (3, iv_i x3)] [iv_i s0, .ref (G.1 + s1)] := by
  unfold f_X12_speaker_60 at h
  refine V_iload_n (j := 0) C d_X12_speaker_60 rfl rfl ?_
  refine V_iadd C d_X12_speaker_61 ?_
  refine V_iload_n (j := 1) C d_X12_speaker_62 rfl rfl ?_
  refine V_callVwi (K' := K_X12_becomes) (a := s1) (ci := 12) (av := [iv_i (wr_i (s0 + x1)), iv_i x3]) (rest := []) yi_X12_becomes (by decide) rfl C (yk_X12_becomes) l1_X12_103 (by decide) d_X12_speaker_63 (fun v hv => ct_X12_becomes s1 (wr_i (s0 + x1)) x3 (ok_wr _) o_x3 hv) rfl rfl (Nat.le_of_ble_eq_true rfl) h (fun z1 o1 h => ?_)
  exact V_iret_w C hR d_X12_speaker_66 o1 h
set_option maxHeartbeats 4000000 in
set_option maxRecDepth 100000 in
theorem t_X12_speaker_38 {X : XT_x} {G : GT_g} {z : (Mem_m × Int)} (C : Cx_ (K_X12_speaker) X G) (hR : Rx_ X G (some .int)) (M : Mem_m) (x0 : Nat) (x1 : Int) (x2 : Int) (x3 : Int) (s0 : Int) (s1 : Int) (s2 : Int) (o_x1 : ok_i x1) (o_x2 : ok_i x2) (o_x3 : ok_i x3) (o_s0 : ok_i s0) (o_s1 : ok_i s1) (o_s2 : ok_i s2) (h : f_X12_speaker_38 G.2.2.2 M x0 x1 x2 x3 s0 s1 s2 = some z) : V_ (K_X12_speaker) X G (Fq_ X G (Qi_ G z.1 z.2)) M 38 [(0, .ref (G.1 + x0)), (1, iv_i x1), (2, iv_i x2), (3, iv_i x3)] [jv_i s0, jv_i s1, jv_i s2] := by
  unfold f_X12_speaker_38 at h
  refine V_callSri (K' := K_X12_isIn) (av := [jv_i s2, jv_i s1, jv_i s0]) (rest := []) ys_X12_isIn C (yk_X12_isIn) l1_X12_69 (by decide) d_X12_speaker_38 (fun v hv => ct_X12_isIn s2 s1 s0 o_s2 o_s1 o_s0 hv) rfl rfl (Nat.le_of_ble_eq_true rfl) h (fun v1 o1 h => ?_)
  refine V_if_ne (tgt := 46) C d_X12_speaker_41 (by decide) o1 h (fun h => ?_) (fun h => ?_)
  · skip
    refine V_iconst C d_X12_speaker_44 ?_
    exact V_iret_w C hR d_X12_speaker_45 (okc rfl) h
  · skip
    refine V_aload_n (j := 0) C d_X12_speaker_46 rfl rfl ?_
    refine V_iload_n (j := 2) C d_X12_speaker_47 rfl rfl ?_
    refine V_if_ne (tgt := 57) C d_X12_speaker_48 (by decide) o_x2 h (fun h => ?_) (fun h => ?_)
    · skip
      refine V_sipush (v := 1046) C d_X12_speaker_51 rfl ?_
      refine V_goto (tgt := 60) C d_X12_speaker_54 (by decide) ?_
      refine V_lv [1, 3] rfl (t_X12_speaker_60 C hR M x1 x3 1046 x0 o_x1 o_x3 (okc rfl) h)
    · skip
      refine V_sipush (v := 1054) C d_X12_speaker_57 rfl ?_
      refine V_lv [1, 3] rfl (t_X12_speaker_60 C hR M x1 x3 1054 x0 o_x1 o_x3 (okc rfl) h)
set_option maxHeartbeats 4000000 in
set_option maxRecDepth 100000 in
theorem t_X12_speaker {X : XT_x} {G : GT_g} {M : Mem_m} {z : (Mem_m × Int)} (C : Cx_ (K_X12_speaker) X G) (hR : Rx_ X G (some .int)) (x0 : Nat) (x1 : Int) (x2 : Int) (x3 : Int) (o_x1 : ok_i x1) (o_x2 : ok_i x2) (o_x3 : ok_i x3) (h : f_X12_speaker G.2.2.2 M x0 x1 x2 x3 = some z) : V_ (K_X12_speaker) X G (Fq_ X G (Qi_ G z.1 z.2)) M 0 [(0, .ref (G.1 + x0)), (1, iv_i x1), (2, iv_i x2), (3, iv_i x3)] [] := by
  unfold f_X12_speaker at h
  refine V_iload_n (j := 1) C d_X12_speaker_0 rfl rfl ?_
  refine V_i2l C d_X12_speaker_1 o_x1 ?_
  refine V_lconst0 C d_X12_speaker_2 ?_
  refine V_ldc2 (v := 7) C d_X12_speaker_3 cl_X12_73 ?_
  refine V_callSri (K' := K_X12_isIn) (av := [jv_i x1, jv_i 0, jv_i 7]) (rest := []) ys_X12_isIn C (yk_X12_isIn) l1_X12_69 (by decide) d_X12_speaker_6 (fun v hv => ct_X12_isIn x1 0 7 o_x1 (okc rfl) (okc rfl) hv) rfl rfl (Nat.le_of_ble_eq_true rfl) h (fun v1 o1 h => ?_)
  refine V_if_eq (tgt := 44) C d_X12_speaker_9 (by decide) o1 h (fun h => ?_) (fun h => ?_)
  · skip
    refine V_iconst C d_X12_speaker_44 ?_
    exact V_iret_w C hR d_X12_speaker_45 (okc rfl) h
  · skip
    refine V_iload_n (j := 2) C d_X12_speaker_12 rfl rfl ?_
    refine V_i2l C d_X12_speaker_13 o_x2 ?_
    refine V_lconst0 C d_X12_speaker_14 ?_
    refine V_lconst1 C d_X12_speaker_15 ?_
    refine V_callSri (K' := K_X12_isIn) (av := [jv_i x2, jv_i 0, jv_i 1]) (rest := []) ys_X12_isIn C (yk_X12_isIn) l1_X12_69 (by decide) d_X12_speaker_16 (fun v hv => ct_X12_isIn x2 0 1 o_x2 (okc rfl) (okc rfl) hv) rfl rfl (Nat.le_of_ble_eq_true rfl) h (fun v2 o2 h => ?_)
    refine V_if_eq (tgt := 44) C d_X12_speaker_19 (by decide) o2 h (fun h => ?_) (fun h => ?_)
    · skip
      refine V_iconst C d_X12_speaker_44 ?_
      exact V_iret_w C hR d_X12_speaker_45 (okc rfl) h
    · skip
      refine V_iload_n (j := 3) C d_X12_speaker_22 rfl rfl ?_
      refine V_i2l C d_X12_speaker_23 o_x3 ?_
      refine V_lconst0 C d_X12_speaker_24 ?_
      refine V_iload_n (j := 2) C d_X12_speaker_25 rfl rfl ?_
      refine V_if_ne (tgt := 35) C d_X12_speaker_26 (by decide) o_x2 h (fun h => ?_) (fun h => ?_)
      · skip
        refine V_ldc2 (v := 3) C d_X12_speaker_29 cl_X12_101 ?_
        refine V_goto (tgt := 38) C d_X12_speaker_32 (by decide) ?_
        refine V_lv [0, 1, 2, 3] rfl (t_X12_speaker_38 C hR M x0 x1 x2 x3 3 0 x3 o_x1 o_x2 o_x3 (okc rfl) (okc rfl) o_x3 h)
      · skip
        refine V_ldc2 (v := 99) C d_X12_speaker_35 cl_X12_106 ?_
        refine V_lv [0, 1, 2, 3] rfl (t_X12_speaker_38 C hR M x0 x1 x2 x3 99 0 x3 o_x1 o_x2 o_x3 (okc rfl) (okc rfl) o_x3 h)
set_option maxHeartbeats 4000000 in
set_option maxRecDepth 100000 in
theorem ct_X12_speaker {l : Launch} {G : GT_g} {M : Mem_m} (x0 : Nat) (x1 : Int) (x2 : Int) (x3 : Int) (o_x1 : ok_i x1) (o_x2 : ok_i x2) (o_x3 : ok_i x3) {z : (Mem_m × Int)} (h : f_X12_speaker G.2.2.2 M x0 x1 x2 x3 = some z) : MI_ l yX12_speaker K_X12_speaker (some .int) G M [.ref (G.1 + x0), iv_i x1, iv_i x2, iv_i x3] z.1 z.2 :=
  met_of (by decide +kernel) rfl (Nat.le_of_ble_eq_true rfl) (fun X hl C hR => by subst hl; exact t_X12_speaker C hR x0 x1 x2 x3 o_x1 o_x2 o_x3 h)
theorem d_X12_counts_0 : decode cX12_counts 0 = .ok (.aload_n 0, 1) := by decide +kernel
theorem d_X12_counts_1 : decode cX12_counts 1 = .ok (.iload_n 1, 1) := by decide +kernel
theorem d_X12_counts_2 : decode cX12_counts 2 = .ok (.bipush 13, 2) := by decide +kernel
theorem d_X12_counts_4 : decode cX12_counts 4 = .ok (.invokevirtual 98, 3) := by decide +kernel
theorem d_X12_counts_7 : decode cX12_counts 7 = .ok (.iconst 1, 1) := by decide +kernel
theorem d_X12_counts_8 : decode cX12_counts 8 = .ok (.if_icmp .ne 17, 3) := by decide +kernel
theorem d_X12_counts_11 : decode cX12_counts 11 = .ok (.aload_n 0, 1) := by decide +kernel
theorem d_X12_counts_12 : decode cX12_counts 12 = .ok (.iload_n 1, 1) := by decide +kernel
theorem d_X12_counts_13 : decode cX12_counts 13 = .ok (.bipush 14, 2) := by decide +kernel
theorem d_X12_counts_15 : decode cX12_counts 15 = .ok (.invokevirtual 98, 3) := by decide +kernel
theorem d_X12_counts_18 : decode cX12_counts 18 = .ok (.ifCond .ne 7, 3) := by decide +kernel
theorem d_X12_counts_21 : decode cX12_counts 21 = .ok (.iconst 1, 1) := by decide +kernel
theorem d_X12_counts_22 : decode cX12_counts 22 = .ok (.goto 4, 3) := by decide +kernel
theorem d_X12_counts_25 : decode cX12_counts 25 = .ok (.iconst 0, 1) := by decide +kernel
theorem d_X12_counts_26 : decode cX12_counts 26 = .ok (.ireturn, 1) := by decide +kernel
set_option maxHeartbeats 4000000 in
set_option maxRecDepth 100000 in
theorem t_X12_counts {X : XT_x} {G : GT_g} {M : Mem_m} {z : Int} (C : Cx_ (K_X12_counts) X G) (hR : Rx_ X G (some .boolean)) (x0 : Nat) (x1 : Int) (o_x1 : ok_i x1) (h : f_X12_counts G.2.2.2 M x0 x1 = some z) : V_ (K_X12_counts) X G (Fq_ X G (Qi_ G M z)) M 0 [(0, .ref (G.1 + x0)), (1, iv_i x1)] [] := by
  unfold f_X12_counts at h
  refine V_aload_n (j := 0) C d_X12_counts_0 rfl rfl ?_
  refine V_iload_n (j := 1) C d_X12_counts_1 rfl rfl ?_
  refine V_bipush (v := 13) C d_X12_counts_2 rfl ?_
  refine V_callVri (K' := K_X12_of) (a := x0) (ci := 12) (av := [iv_i x1, iv_i 13]) (rest := []) yi_X12_of (by decide) rfl C (yk_X12_of) l1_X12_98 (by decide) d_X12_counts_4 (fun v hv => ct_X12_of x0 x1 13 o_x1 (okc rfl) hv) rfl rfl (Nat.le_of_ble_eq_true rfl) h (fun v1 o1 h => ?_)
  refine V_iconst C d_X12_counts_7 ?_
  refine V_icmp_ne (tgt := 25) C d_X12_counts_8 (by decide) o1 (okc rfl) h (fun h => ?_) (fun h => ?_)
  · skip
    refine V_aload_n (j := 0) C d_X12_counts_11 rfl rfl ?_
    refine V_iload_n (j := 1) C d_X12_counts_12 rfl rfl ?_
    refine V_bipush (v := 14) C d_X12_counts_13 rfl ?_
    refine V_callVri (K' := K_X12_of) (a := x0) (ci := 12) (av := [iv_i x1, iv_i 14]) (rest := []) yi_X12_of (by decide) rfl C (yk_X12_of) l1_X12_98 (by decide) d_X12_counts_15 (fun v hv => ct_X12_of x0 x1 14 o_x1 (okc rfl) hv) rfl rfl (Nat.le_of_ble_eq_true rfl) h (fun v2 o2 h => ?_)
    refine V_if_ne (tgt := 25) C d_X12_counts_18 (by decide) o2 h (fun h => ?_) (fun h => ?_)
    · skip
      refine V_iconst C d_X12_counts_21 ?_
      refine V_goto (tgt := 26) C d_X12_counts_22 (by decide) ?_
      exact V_zret_r C hR d_X12_counts_26 (Or.inr rfl) h
    · skip
      refine V_iconst C d_X12_counts_25 ?_
      exact V_zret_r C hR d_X12_counts_26 (Or.inl rfl) h
  · skip
    refine V_iconst C d_X12_counts_25 ?_
    exact V_zret_r C hR d_X12_counts_26 (Or.inl rfl) h
set_option maxHeartbeats 4000000 in
set_option maxRecDepth 100000 in
theorem ct_X12_counts {l : Launch} {G : GT_g} {M : Mem_m} (x0 : Nat) (x1 : Int) (o_x1 : ok_i x1) {z : Int} (h : f_X12_counts G.2.2.2 M x0 x1 = some z) : MI_ l yX12_counts K_X12_counts (some .boolean) G M [.ref (G.1 + x0), iv_i x1] M z :=
  met_of (by decide +kernel) rfl (Nat.le_of_ble_eq_true rfl) (fun X hl C hR => by subst hl; exact t_X12_counts C hR x0 x1 o_x1 h)
theorem d_X12_others_0 : decode cX12_others 0 = .ok (.iconst 0, 1) := by decide +kernel
theorem d_X12_others_1 : decode cX12_others 1 = .ok (.istore_n 3, 1) := by decide +kernel
theorem d_X12_others_2 : decode cX12_others 2 = .ok (.iconst 0, 1) := by decide +kernel
theorem d_X12_others_3 : decode cX12_others 3 = .ok (.istore 4, 2) := by decide +kernel
theorem d_X12_others_5 : decode cX12_others 5 = .ok (.iload 4, 2) := by decide +kernel
theorem d_X12_others_7 : decode cX12_others 7 = .ok (.aload_n 0, 1) := by decide +kernel
theorem d_X12_others_8 : decode cX12_others 8 = .ok (.iload_n 1, 1) := by decide +kernel
theorem d_X12_others_9 : decode cX12_others 9 = .ok (.iconst 0, 1) := by decide +kernel
theorem d_X12_others_10 : decode cX12_others 10 = .ok (.invokevirtual 98, 3) := by decide +kernel
theorem d_X12_others_13 : decode cX12_others 13 = .ok (.if_icmp .ge 42, 3) := by decide +kernel
theorem d_X12_others_16 : decode cX12_others 16 = .ok (.aload_n 0, 1) := by decide +kernel
theorem d_X12_others_17 : decode cX12_others 17 = .ok (.iload_n 1, 1) := by decide +kernel
theorem d_X12_others_18 : decode cX12_others 18 = .ok (.iconst 1, 1) := by decide +kernel
theorem d_X12_others_19 : decode cX12_others 19 = .ok (.iload 4, 2) := by decide +kernel
theorem d_X12_others_21 : decode cX12_others 21 = .ok (.iadd, 1) := by decide +kernel
theorem d_X12_others_22 : decode cX12_others 22 = .ok (.invokevirtual 98, 3) := by decide +kernel
theorem d_X12_others_25 : decode cX12_others 25 = .ok (.aload_n 0, 1) := by decide +kernel
theorem d_X12_others_26 : decode cX12_others 26 = .ok (.iload_n 2, 1) := by decide +kernel
theorem d_X12_others_27 : decode cX12_others 27 = .ok (.iconst 1, 1) := by decide +kernel
theorem d_X12_others_28 : decode cX12_others 28 = .ok (.iload 4, 2) := by decide +kernel
theorem d_X12_others_30 : decode cX12_others 30 = .ok (.iadd, 1) := by decide +kernel
theorem d_X12_others_31 : decode cX12_others 31 = .ok (.invokevirtual 98, 3) := by decide +kernel
theorem d_X12_others_34 : decode cX12_others 34 = .ok (.if_icmp .ne 6, 3) := by decide +kernel
theorem d_X12_others_37 : decode cX12_others 37 = .ok (.goto 12, 3) := by decide +kernel
theorem d_X12_others_40 : decode cX12_others 40 = .ok (.iinc 3 1, 3) := by decide +kernel
theorem d_X12_others_43 : decode cX12_others 43 = .ok (.aload_n 0, 1) := by decide +kernel
theorem d_X12_others_44 : decode cX12_others 44 = .ok (.iload 4, 2) := by decide +kernel
theorem d_X12_others_46 : decode cX12_others 46 = .ok (.putfield 108, 3) := by decide +kernel
theorem d_X12_others_49 : decode cX12_others 49 = .ok (.iinc 4 1, 3) := by decide +kernel
theorem d_X12_others_52 : decode cX12_others 52 = .ok (.goto (-47), 3) := by decide +kernel
theorem d_X12_others_55 : decode cX12_others 55 = .ok (.iload_n 3, 1) := by decide +kernel
theorem d_X12_others_56 : decode cX12_others 56 = .ok (.ireturn, 1) := by decide +kernel
set_option maxHeartbeats 4000000 in
set_option maxRecDepth 100000 in
theorem t_X12_others_5 {X : XT_x} {G : GT_g} {z : (Mem_m × Int)} (C : Cx_ (K_X12_others) X G) (hR : Rx_ X G (some .int)) (x0 : Nat) (x1 : Int) (x2 : Int) (o_x1 : ok_i x1) (o_x2 : ok_i x2) : ∀ (n : Nat) (M : Mem_m) (x3 : Int) (x4 : Int) (o_x3 : ok_i x3) (o_x4 : ok_i x4), f_X12_others_5 G.2.2.2 x0 x1 x2 n M x3 x4 = some z → V_ (K_X12_others) X G (Fq_ X G (Qi_ G z.1 z.2)) M 5 [(0, .ref (G.1 + x0)), (1, iv_i x1), (2, iv_i x2), (3, iv_i x3), (4, iv_i x4)] [] := by
  intro n
  induction n with
  | zero => intro M x3 x4 o_x3 o_x4 h; exact absurd h (by simp [f_X12_others_5])
  | succ n ih =>
    intro M x3 x4 o_x3 o_x4 h
    unfold f_X12_others_5 at h
    refine V_iload (j := 4) C d_X12_others_5 rfl ?_
    refine V_aload_n (j := 0) C d_X12_others_7 rfl rfl ?_
    refine V_iload_n (j := 1) C d_X12_others_8 rfl rfl ?_
    refine V_iconst C d_X12_others_9 ?_
    refine V_callVri (K' := K_X12_of) (a := x0) (ci := 12) (av := [iv_i x1, iv_i 0]) (rest := [iv_i x4]) yi_X12_of (by decide) rfl C (yk_X12_of) l1_X12_98 (by decide) d_X12_others_10 (fun v hv => ct_X12_of x0 x1 0 o_x1 (okc rfl) hv) rfl rfl (Nat.le_of_ble_eq_true rfl) h (fun v1 o1 h => ?_)
    refine V_icmp_ge (tgt := 55) C d_X12_others_13 (by decide) o_x4 o1 h (fun h => ?_) (fun h => ?_)
    · skip
      refine V_aload_n (j := 0) C d_X12_others_16 rfl rfl ?_
      refine V_iload_n (j := 1) C d_X12_others_17 rfl rfl ?_
      refine V_iconst C d_X12_others_18 ?_
      refine V_iload (j := 4) C d_X12_others_19 rfl ?_
      refine V_iadd C d_X12_others_21 ?_
      refine V_callVri (K' := K_X12_of) (a := x0) (ci := 12) (av := [iv_i x1, iv_i (wr_i (1 + x4))]) (rest := []) yi_X12_of (by decide) rfl C (yk_X12_of) l1_X12_98 (by decide) d_X12_others_22 (fun v hv => ct_X12_of x0 x1 (wr_i (1 + x4)) o_x1 (ok_wr _) hv) rfl rfl (Nat.le_of_ble_eq_true rfl) h (fun v2 o2 h => ?_)
      refine V_aload_n (j := 0) C d_X12_others_25 rfl rfl ?_
      refine V_iload_n (j := 2) C d_X12_others_26 rfl rfl ?_
      refine V_iconst C d_X12_others_27 ?_
      refine V_iload (j := 4) C d_X12_others_28 rfl ?_
      refine V_iadd C d_X12_others_30 ?_
      refine V_callVri (K' := K_X12_of) (a := x0) (ci := 12) (av := [iv_i x2, iv_i (wr_i (1 + x4))]) (rest := [iv_i v2]) yi_X12_of (by decide) rfl C (yk_X12_of) l1_X12_98 (by decide) d_X12_others_31 (fun v hv => ct_X12_of x0 x2 (wr_i (1 + x4)) o_x2 (ok_wr _) hv) rfl rfl (Nat.le_of_ble_eq_true rfl) h (fun v3 o3 h => ?_)
      refine V_icmp_ne (tgt := 40) C d_X12_others_34 (by decide) o2 o3 h (fun h => ?_) (fun h => ?_)
      · skip
        refine V_goto (tgt := 49) C d_X12_others_37 (by decide) ?_
        refine V_iinc (j := 4) (lv' := [(4, iv_i (wr_i (x4 + 1))), (0, .ref (G.1 + x0)), (1, iv_i x1), (2, iv_i x2), (3, iv_i x3)]) C d_X12_others_49 rfl (by decide) rfl ?_
        refine V_goto (tgt := 5) C d_X12_others_52 (by decide) ?_
        refine V_lv [1, 2, 3, 4, 0] rfl (ih M x3 (wr_i (x4 + 1)) o_x3 (ok_wr _) h)
      · skip
        refine V_iinc (j := 3) (lv' := [(3, iv_i (wr_i (x3 + 1))), (0, .ref (G.1 + x0)), (1, iv_i x1), (2, iv_i x2), (4, iv_i x4)]) C d_X12_others_40 rfl (by decide) rfl ?_
        refine V_aload_n (j := 1) C d_X12_others_43 rfl rfl ?_
        refine V_iload (j := 4) C d_X12_others_44 rfl ?_
        refine V_putI C ck_12 fw_X12_108 fp_12_10 d_X12_others_46 o_x4 h (fun M4 h => ?_)
        refine V_iinc (j := 4) (lv' := [(4, iv_i (wr_i (x4 + 1))), (3, iv_i (wr_i (x3 + 1))), (0, .ref (G.1 + x0)), (1, iv_i x1), (2, iv_i x2)]) C d_X12_others_49 rfl (by decide) rfl ?_
        refine V_goto (tgt := 5) C d_X12_others_52 (by decide) ?_
        refine V_lv [2, 3, 4, 1, 0] rfl (ih M4 (wr_i (x3 + 1)) (wr_i (x4 + 1)) (ok_wr _) (ok_wr _) h)
    · skip
      refine V_iload_n (j := 3) C d_X12_others_55 rfl rfl ?_
      exact V_iret_w C hR d_X12_others_56 o_x3 h
set_option maxHeartbeats 4000000 in
set_option maxRecDepth 100000 in
theorem t_X12_others {X : XT_x} {G : GT_g} {M : Mem_m} {z : (Mem_m × Int)} (C : Cx_ (K_X12_others) X G) (hR : Rx_ X G (some .int)) (x0 : Nat) (x1 : Int) (x2 : Int) (o_x1 : ok_i x1) (o_x2 : ok_i x2) (h : f_X12_others G.2.2.2 M x0 x1 x2 = some z) : V_ (K_X12_others) X G (Fq_ X G (Qi_ G z.1 z.2)) M 0 [(0, .ref (G.1 + x0)), (1, iv_i x1), (2, iv_i x2)] [] := by
  unfold f_X12_others at h
  refine V_iconst C d_X12_others_0 ?_
  refine V_istore_n (lv' := [(3, iv_i 0), (0, .ref (G.1 + x0)), (1, iv_i x1), (2, iv_i x2)]) C d_X12_others_1 rfl (by decide) rfl ?_
  refine V_iconst C d_X12_others_2 ?_
  refine V_istore (lv' := [(4, iv_i 0), (3, iv_i 0), (0, .ref (G.1 + x0)), (1, iv_i x1), (2, iv_i x2)]) C d_X12_others_3 (by decide) rfl ?_
  refine V_lv [2, 3, 4, 1, 0] rfl (t_X12_others_5 C hR x0 x1 x2 o_x1 o_x2 FU_ M 0 0 (okc rfl) (okc rfl) h)
set_option maxHeartbeats 4000000 in
set_option maxRecDepth 100000 in
theorem ct_X12_others {l : Launch} {G : GT_g} {M : Mem_m} (x0 : Nat) (x1 : Int) (x2 : Int) (o_x1 : ok_i x1) (o_x2 : ok_i x2) {z : (Mem_m × Int)} (h : f_X12_others G.2.2.2 M x0 x1 x2 = some z) : MI_ l yX12_others K_X12_others (some .int) G M [.ref (G.1 + x0), iv_i x1, iv_i x2] z.1 z.2 :=
  met_of (by decide +kernel) rfl (Nat.le_of_ble_eq_true rfl) (fun X hl C hR => by subst hl; exact t_X12_others C hR x0 x1 x2 o_x1 o_x2 h)
theorem d_X12_areTwo_0 : decode cX12_areTwo 0 = .ok (.iconst 0, 1) := by decide +kernel
theorem d_X12_areTwo_1 : decode cX12_areTwo 1 = .ok (.istore_n 3, 1) := by decide +kernel
theorem d_X12_areTwo_2 : decode cX12_areTwo 2 = .ok (.iload_n 3, 1) := by decide +kernel
theorem d_X12_areTwo_3 : decode cX12_areTwo 3 = .ok (.aload_n 0, 1) := by decide +kernel
theorem d_X12_areTwo_4 : decode cX12_areTwo 4 = .ok (.getfield 9, 3) := by decide +kernel
theorem d_X12_areTwo_7 : decode cX12_areTwo 7 = .ok (.sipush 1062, 3) := by decide +kernel
theorem d_X12_areTwo_10 : decode cX12_areTwo 10 = .ok (.iaload, 1) := by decide +kernel
theorem d_X12_areTwo_11 : decode cX12_areTwo 11 = .ok (.if_icmp .ge 150, 3) := by decide +kernel
theorem d_X12_areTwo_14 : decode cX12_areTwo 14 = .ok (.iconst 0, 1) := by decide +kernel
theorem d_X12_areTwo_15 : decode cX12_areTwo 15 = .ok (.istore 4, 2) := by decide +kernel
theorem d_X12_areTwo_17 : decode cX12_areTwo 17 = .ok (.iload 4, 2) := by decide +kernel
theorem d_X12_areTwo_19 : decode cX12_areTwo 19 = .ok (.aload_n 0, 1) := by decide +kernel
theorem d_X12_areTwo_20 : decode cX12_areTwo 20 = .ok (.getfield 9, 3) := by decide +kernel
theorem d_X12_areTwo_23 : decode cX12_areTwo 23 = .ok (.sipush 1062, 3) := by decide +kernel
theorem d_X12_areTwo_26 : decode cX12_areTwo 26 = .ok (.iaload, 1) := by decide +kernel
theorem d_X12_areTwo_27 : decode cX12_areTwo 27 = .ok (.if_icmp .ge 128, 3) := by decide +kernel
theorem d_X12_areTwo_30 : decode cX12_areTwo 30 = .ok (.aload_n 0, 1) := by decide +kernel
theorem d_X12_areTwo_31 : decode cX12_areTwo 31 = .ok (.iload_n 3, 1) := by decide +kernel
theorem d_X12_areTwo_32 : decode cX12_areTwo 32 = .ok (.invokevirtual 111, 3) := by decide +kernel
theorem d_X12_areTwo_35 : decode cX12_areTwo 35 = .ok (.ifCond .eq 114, 3) := by decide +kernel
theorem d_X12_areTwo_38 : decode cX12_areTwo 38 = .ok (.aload_n 0, 1) := by decide +kernel
theorem d_X12_areTwo_39 : decode cX12_areTwo 39 = .ok (.iload 4, 2) := by decide +kernel
theorem d_X12_areTwo_41 : decode cX12_areTwo 41 = .ok (.invokevirtual 111, 3) := by decide +kernel
theorem d_X12_areTwo_44 : decode cX12_areTwo 44 = .ok (.ifCond .eq 105, 3) := by decide +kernel
theorem d_X12_areTwo_47 : decode cX12_areTwo 47 = .ok (.aload_n 0, 1) := by decide +kernel
theorem d_X12_areTwo_48 : decode cX12_areTwo 48 = .ok (.iload_n 3, 1) := by decide +kernel
theorem d_X12_areTwo_49 : decode cX12_areTwo 49 = .ok (.iconst 0, 1) := by decide +kernel
theorem d_X12_areTwo_50 : decode cX12_areTwo 50 = .ok (.invokevirtual 98, 3) := by decide +kernel
theorem d_X12_areTwo_53 : decode cX12_areTwo 53 = .ok (.aload_n 0, 1) := by decide +kernel
theorem d_X12_areTwo_54 : decode cX12_areTwo 54 = .ok (.iload 4, 2) := by decide +kernel
theorem d_X12_areTwo_56 : decode cX12_areTwo 56 = .ok (.iconst 0, 1) := by decide +kernel
theorem d_X12_areTwo_57 : decode cX12_areTwo 57 = .ok (.invokevirtual 98, 3) := by decide +kernel
theorem d_X12_areTwo_60 : decode cX12_areTwo 60 = .ok (.if_icmp .ne 89, 3) := by decide +kernel
theorem d_X12_areTwo_63 : decode cX12_areTwo 63 = .ok (.aload_n 0, 1) := by decide +kernel
theorem d_X12_areTwo_64 : decode cX12_areTwo 64 = .ok (.iload_n 3, 1) := by decide +kernel
theorem d_X12_areTwo_65 : decode cX12_areTwo 65 = .ok (.bipush 9, 2) := by decide +kernel
theorem d_X12_areTwo_67 : decode cX12_areTwo 67 = .ok (.invokevirtual 98, 3) := by decide +kernel
theorem d_X12_areTwo_70 : decode cX12_areTwo 70 = .ok (.ifCond .eq 79, 3) := by decide +kernel
theorem d_X12_areTwo_73 : decode cX12_areTwo 73 = .ok (.aload_n 0, 1) := by decide +kernel
theorem d_X12_areTwo_74 : decode cX12_areTwo 74 = .ok (.iload 4, 2) := by decide +kernel
theorem d_X12_areTwo_76 : decode cX12_areTwo 76 = .ok (.bipush 9, 2) := by decide +kernel
theorem d_X12_areTwo_78 : decode cX12_areTwo 78 = .ok (.invokevirtual 98, 3) := by decide +kernel
theorem d_X12_areTwo_81 : decode cX12_areTwo 81 = .ok (.ifCond .eq 68, 3) := by decide +kernel
theorem d_X12_areTwo_84 : decode cX12_areTwo 84 = .ok (.aload_n 0, 1) := by decide +kernel
theorem d_X12_areTwo_85 : decode cX12_areTwo 85 = .ok (.iload_n 3, 1) := by decide +kernel
theorem d_X12_areTwo_86 : decode cX12_areTwo 86 = .ok (.bipush 9, 2) := by decide +kernel
theorem d_X12_areTwo_88 : decode cX12_areTwo 88 = .ok (.invokevirtual 98, 3) := by decide +kernel
theorem d_X12_areTwo_91 : decode cX12_areTwo 91 = .ok (.aload_n 0, 1) := by decide +kernel
theorem d_X12_areTwo_92 : decode cX12_areTwo 92 = .ok (.iload 4, 2) := by decide +kernel
theorem d_X12_areTwo_94 : decode cX12_areTwo 94 = .ok (.bipush 9, 2) := by decide +kernel
theorem d_X12_areTwo_96 : decode cX12_areTwo 96 = .ok (.invokevirtual 98, 3) := by decide +kernel
theorem d_X12_areTwo_99 : decode cX12_areTwo 99 = .ok (.if_icmp .eq 50, 3) := by decide +kernel
theorem d_X12_areTwo_102 : decode cX12_areTwo 102 = .ok (.aload_n 0, 1) := by decide +kernel
theorem d_X12_areTwo_103 : decode cX12_areTwo 103 = .ok (.iload_n 3, 1) := by decide +kernel
theorem d_X12_areTwo_104 : decode cX12_areTwo 104 = .ok (.iload 4, 2) := by decide +kernel
theorem d_X12_areTwo_106 : decode cX12_areTwo 106 = .ok (.invokevirtual 114, 3) := by decide +kernel
theorem d_X12_areTwo_109 : decode cX12_areTwo 109 = .ok (.iconst 1, 1) := by decide +kernel
theorem d_X12_areTwo_110 : decode cX12_areTwo 110 = .ok (.if_icmp .eq 6, 3) := by decide +kernel
theorem d_X12_areTwo_113 : decode cX12_areTwo 113 = .ok (.goto 36, 3) := by decide +kernel
theorem d_X12_areTwo_116 : decode cX12_areTwo 116 = .ok (.aload_n 0, 1) := by decide +kernel
theorem d_X12_areTwo_117 : decode cX12_areTwo 117 = .ok (.iload_n 3, 1) := by decide +kernel
theorem d_X12_areTwo_118 : decode cX12_areTwo 118 = .ok (.iconst 1, 1) := by decide +kernel
theorem d_X12_areTwo_119 : decode cX12_areTwo 119 = .ok (.aload_n 0, 1) := by decide +kernel
theorem d_X12_areTwo_120 : decode cX12_areTwo 120 = .ok (.getfield 108, 3) := by decide +kernel
theorem d_X12_areTwo_123 : decode cX12_areTwo 123 = .ok (.iadd, 1) := by decide +kernel
theorem d_X12_areTwo_124 : decode cX12_areTwo 124 = .ok (.invokevirtual 98, 3) := by decide +kernel
theorem d_X12_areTwo_127 : decode cX12_areTwo 127 = .ok (.iload_n 1, 1) := by decide +kernel
theorem d_X12_areTwo_128 : decode cX12_areTwo 128 = .ok (.if_icmp .ne 21, 3) := by decide +kernel
theorem d_X12_areTwo_131 : decode cX12_areTwo 131 = .ok (.aload_n 0, 1) := by decide +kernel
theorem d_X12_areTwo_132 : decode cX12_areTwo 132 = .ok (.iload 4, 2) := by decide +kernel
theorem d_X12_areTwo_134 : decode cX12_areTwo 134 = .ok (.iconst 1, 1) := by decide +kernel
theorem d_X12_areTwo_135 : decode cX12_areTwo 135 = .ok (.aload_n 0, 1) := by decide +kernel
theorem d_X12_areTwo_136 : decode cX12_areTwo 136 = .ok (.getfield 108, 3) := by decide +kernel
theorem d_X12_areTwo_139 : decode cX12_areTwo 139 = .ok (.iadd, 1) := by decide +kernel
theorem d_X12_areTwo_140 : decode cX12_areTwo 140 = .ok (.invokevirtual 98, 3) := by decide +kernel
theorem d_X12_areTwo_143 : decode cX12_areTwo 143 = .ok (.iload_n 2, 1) := by decide +kernel
theorem d_X12_areTwo_144 : decode cX12_areTwo 144 = .ok (.if_icmp .ne 5, 3) := by decide +kernel
theorem d_X12_areTwo_147 : decode cX12_areTwo 147 = .ok (.iconst 1, 1) := by decide +kernel
theorem d_X12_areTwo_148 : decode cX12_areTwo 148 = .ok (.ireturn, 1) := by decide +kernel
theorem d_X12_areTwo_149 : decode cX12_areTwo 149 = .ok (.iinc 4 1, 3) := by decide +kernel
theorem d_X12_areTwo_152 : decode cX12_areTwo 152 = .ok (.goto (-135), 3) := by decide +kernel
theorem d_X12_areTwo_155 : decode cX12_areTwo 155 = .ok (.iinc 3 1, 3) := by decide +kernel
theorem d_X12_areTwo_158 : decode cX12_areTwo 158 = .ok (.goto (-156), 3) := by decide +kernel
theorem d_X12_areTwo_161 : decode cX12_areTwo 161 = .ok (.iconst 0, 1) := by decide +kernel
theorem d_X12_areTwo_162 : decode cX12_areTwo 162 = .ok (.ireturn, 1) := by decide +kernel
set_option maxHeartbeats 4000000 in
set_option maxRecDepth 100000 in
theorem t_X12_areTwo_17 {X : XT_x} {G : GT_g} {z : (Mem_m × Int)} (C : Cx_ (K_X12_areTwo) X G) (hR : Rx_ X G (some .boolean)) (x0 : Nat) (x1 : Int) (x2 : Int) (x3 : Int) (o_x1 : ok_i x1) (o_x2 : ok_i x2) (o_x3 : ok_i x3) (k_2 : Mem_m → Int → Option (Mem_m × Int)) (hk_2 : ∀ (M : Mem_m) (x3 : Int) (o_x3 : ok_i x3), k_2 M x3 = some z → V_ (K_X12_areTwo) X G (Fq_ X G (Qi_ G z.1 z.2)) M 2 [(0, .ref (G.1 + x0)), (1, iv_i x1), (2, iv_i x2), (3, iv_i x3)] []) : ∀ (n : Nat) (M : Mem_m) (x4 : Int) (o_x4 : ok_i x4), f_X12_areTwo_17 G.2.2.2 k_2 x0 x1 x2 x3 n M x4 = some z → V_ (K_X12_areTwo) X G (Fq_ X G (Qi_ G z.1 z.2)) M 17 [(0, .ref (G.1 + x0)), (1, iv_i x1), (2, iv_i x2), (3, iv_i x3), (4, iv_i x4)] [] := by
  intro n
  induction n with
  | zero => intro M x4 o_x4 h; exact absurd h (by simp [f_X12_areTwo_17])
  | succ n ih =>
    intro M x4 o_x4 h
    unfold f_X12_areTwo_17 at h
    refine V_iload (j := 4) C d_X12_areTwo_17 rfl ?_
    refine V_aload_n (j := 0) C d_X12_areTwo_19 rfl rfl ?_
    refine V_getR C ck_12 fw_X12_9 d_X12_areTwo_20 h (fun v1 h => ?_)
    refine V_sipush (v := 1062) C d_X12_areTwo_23 rfl ?_
    refine V_iald C d_X12_areTwo_26 (okc rfl) h (fun v2 o2 h => ?_)
    refine V_icmp_ge (tgt := 155) C d_X12_areTwo_27 (by decide) o_x4 o2 h (fun h => ?_) (fun h => ?_)
    · skip
      refine V_aload_n (j := 0) C d_X12_areTwo_30 rfl rfl ?_
      refine V_iload_n (j := 3) C d_X12_areTwo_31 rfl rfl ?_
      refine V_callVri (K' := K_X12_counts) (a := x0) (ci := 12) (av := [iv_i x3]) (rest := []) yi_X12_counts (by decide) rfl C (yk_X12_counts) l1_X12_111 (by decide) d_X12_areTwo_32 (fun v hv => ct_X12_counts x0 x3 o_x3 hv) rfl rfl (Nat.le_of_ble_eq_true rfl) h (fun v3 o3 h => ?_)
      refine V_if_eq (tgt := 149) C d_X12_areTwo_35 (by decide) o3 h (fun h => ?_) (fun h => ?_)
      · skip
        refine V_iinc (j := 4) (lv' := [(4, iv_i (wr_i (x4 + 1))), (0, .ref (G.1 + x0)), (1, iv_i x1), (2, iv_i x2), (3, iv_i x3)]) C d_X12_areTwo_149 rfl (by decide) rfl ?_
        refine V_goto (tgt := 17) C d_X12_areTwo_152 (by decide) ?_
        refine V_lv [1, 2, 3, 4, 0] rfl (ih M (wr_i (x4 + 1)) (ok_wr _) h)
      · skip
        refine V_aload_n (j := 0) C d_X12_areTwo_38 rfl rfl ?_
        refine V_iload (j := 4) C d_X12_areTwo_39 rfl ?_
        refine V_callVri (K' := K_X12_counts) (a := x0) (ci := 12) (av := [iv_i x4]) (rest := []) yi_X12_counts (by decide) rfl C (yk_X12_counts) l1_X12_111 (by decide) d_X12_areTwo_41 (fun v hv => ct_X12_counts x0 x4 o_x4 hv) rfl rfl (Nat.le_of_ble_eq_true rfl) h (fun v4 o4 h => ?_)
        refine V_if_eq (tgt := 149) C d_X12_areTwo_44 (by decide) o4 h (fun h => ?_) (fun h => ?_)
        · skip
          refine V_iinc (j := 4) (lv' := [(4, iv_i (wr_i (x4 + 1))), (0, .ref (G.1 + x0)), (1, iv_i x1), (2, iv_i x2), (3, iv_i x3)]) C d_X12_areTwo_149 rfl (by decide) rfl ?_
          refine V_goto (tgt := 17) C d_X12_areTwo_152 (by decide) ?_
          refine V_lv [1, 2, 3, 4, 0] rfl (ih M (wr_i (x4 + 1)) (ok_wr _) h)
        · skip
          refine V_aload_n (j := 0) C d_X12_areTwo_47 rfl rfl ?_
          refine V_iload_n (j := 3) C d_X12_areTwo_48 rfl rfl ?_
          refine V_iconst C d_X12_areTwo_49 ?_
          refine V_callVri (K' := K_X12_of) (a := x0) (ci := 12) (av := [iv_i x3, iv_i 0]) (rest := []) yi_X12_of (by decide) rfl C (yk_X12_of) l1_X12_98 (by decide) d_X12_areTwo_50 (fun v hv => ct_X12_of x0 x3 0 o_x3 (okc rfl) hv) rfl rfl (Nat.le_of_ble_eq_true rfl) h (fun v5 o5 h => ?_)
          refine V_aload_n (j := 0) C d_X12_areTwo_53 rfl rfl ?_
          refine V_iload (j := 4) C d_X12_areTwo_54 rfl ?_
          refine V_iconst C d_X12_areTwo_56 ?_
          refine V_callVri (K' := K_X12_of) (a := x0) (ci := 12) (av := [iv_i x4, iv_i 0]) (rest := [iv_i v5]) yi_X12_of (by decide) rfl C (yk_X12_of) l1_X12_98 (by decide) d_X12_areTwo_57 (fun v hv => ct_X12_of x0 x4 0 o_x4 (okc rfl) hv) rfl rfl (Nat.le_of_ble_eq_true rfl) h (fun v6 o6 h => ?_)
          refine V_icmp_ne (tgt := 149) C d_X12_areTwo_60 (by decide) o5 o6 h (fun h => ?_) (fun h => ?_)
          · skip
            refine V_aload_n (j := 0) C d_X12_areTwo_63 rfl rfl ?_
            refine V_iload_n (j := 3) C d_X12_areTwo_64 rfl rfl ?_
            refine V_bipush (v := 9) C d_X12_areTwo_65 rfl ?_
            refine V_callVri (K' := K_X12_of) (a := x0) (ci := 12) (av := [iv_i x3, iv_i 9]) (rest := []) yi_X12_of (by decide) rfl C (yk_X12_of) l1_X12_98 (by decide) d_X12_areTwo_67 (fun v hv => ct_X12_of x0 x3 9 o_x3 (okc rfl) hv) rfl rfl (Nat.le_of_ble_eq_true rfl) h (fun v7 o7 h => ?_)
            refine V_if_eq (tgt := 149) C d_X12_areTwo_70 (by decide) o7 h (fun h => ?_) (fun h => ?_)
            · skip
              refine V_iinc (j := 4) (lv' := [(4, iv_i (wr_i (x4 + 1))), (0, .ref (G.1 + x0)), (1, iv_i x1), (2, iv_i x2), (3, iv_i x3)]) C d_X12_areTwo_149 rfl (by decide) rfl ?_
              refine V_goto (tgt := 17) C d_X12_areTwo_152 (by decide) ?_
              refine V_lv [1, 2, 3, 4, 0] rfl (ih M (wr_i (x4 + 1)) (ok_wr _) h)
            · skip
              refine V_aload_n (j := 0) C d_X12_areTwo_73 rfl rfl ?_
              refine V_iload (j := 4) C d_X12_areTwo_74 rfl ?_
              refine V_bipush (v := 9) C d_X12_areTwo_76 rfl ?_
              refine V_callVri (K' := K_X12_of) (a := x0) (ci := 12) (av := [iv_i x4, iv_i 9]) (rest := []) yi_X12_of (by decide) rfl C (yk_X12_of) l1_X12_98 (by decide) d_X12_areTwo_78 (fun v hv => ct_X12_of x0 x4 9 o_x4 (okc rfl) hv) rfl rfl (Nat.le_of_ble_eq_true rfl) h (fun v8 o8 h => ?_)
              refine V_if_eq (tgt := 149) C d_X12_areTwo_81 (by decide) o8 h (fun h => ?_) (fun h => ?_)
              · skip
                refine V_iinc (j := 4) (lv' := [(4, iv_i (wr_i (x4 + 1))), (0, .ref (G.1 + x0)), (1, iv_i x1), (2, iv_i x2), (3, iv_i x3)]) C d_X12_areTwo_149 rfl (by decide) rfl ?_
                refine V_goto (tgt := 17) C d_X12_areTwo_152 (by decide) ?_
                refine V_lv [1, 2, 3, 4, 0] rfl (ih M (wr_i (x4 + 1)) (ok_wr _) h)
              · skip
                refine V_aload_n (j := 0) C d_X12_areTwo_84 rfl rfl ?_
                refine V_iload_n (j := 3) C d_X12_areTwo_85 rfl rfl ?_
                refine V_bipush (v := 9) C d_X12_areTwo_86 rfl ?_
                refine V_callVri (K' := K_X12_of) (a := x0) (ci := 12) (av := [iv_i x3, iv_i 9]) (rest := []) yi_X12_of (by decide) rfl C (yk_X12_of) l1_X12_98 (by decide) d_X12_areTwo_88 (fun v hv => ct_X12_of x0 x3 9 o_x3 (okc rfl) hv) rfl rfl (Nat.le_of_ble_eq_true rfl) h (fun v9 o9 h => ?_)
                refine V_aload_n (j := 0) C d_X12_areTwo_91 rfl rfl ?_
                refine V_iload (j := 4) C d_X12_areTwo_92 rfl ?_
                refine V_bipush (v := 9) C d_X12_areTwo_94 rfl ?_
                refine V_callVri (K' := K_X12_of) (a := x0) (ci := 12) (av := [iv_i x4, iv_i 9]) (rest := [iv_i v9]) yi_X12_of (by decide) rfl C (yk_X12_of) l1_X12_98 (by decide) d_X12_areTwo_96 (fun v hv => ct_X12_of x0 x4 9 o_x4 (okc rfl) hv) rfl rfl (Nat.le_of_ble_eq_true rfl) h (fun v10 o10 h => ?_)
                refine V_icmp_eq (tgt := 149) C d_X12_areTwo_99 (by decide) o9 o10 h (fun h => ?_) (fun h => ?_)
                · skip
                  refine V_iinc (j := 4) (lv' := [(4, iv_i (wr_i (x4 + 1))), (0, .ref (G.1 + x0)), (1, iv_i x1), (2, iv_i x2), (3, iv_i x3)]) C d_X12_areTwo_149 rfl (by decide) rfl ?_
                  refine V_goto (tgt := 17) C d_X12_areTwo_152 (by decide) ?_
                  refine V_lv [1, 2, 3, 4, 0] rfl (ih M (wr_i (x4 + 1)) (ok_wr _) h)
                · skip
                  refine V_aload_n (j := 0) C d_X12_areTwo_102 rfl rfl ?_
                  refine V_iload_n (j := 3) C d_X12_areTwo_103 rfl rfl ?_
                  refine V_iload (j := 4) C d_X12_areTwo_104 rfl ?_
                  refine V_callVwi (K' := K_X12_others) (a := x0) (ci := 12) (av := [iv_i x3, iv_i x4]) (rest := []) yi_X12_others (by decide) rfl C (yk_X12_others) l1_X12_114 (by decide) d_X12_areTwo_106 (fun v hv => ct_X12_others x0 x3 x4 o_x3 o_x4 hv) rfl rfl (Nat.le_of_ble_eq_true rfl) h (fun z11 o11 h => ?_)
                  refine V_iconst C d_X12_areTwo_109 ?_
                  refine V_icmp_eq (tgt := 116) C d_X12_areTwo_110 (by decide) o11 (okc rfl) h (fun h => ?_) (fun h => ?_)
                  · skip
                    refine V_aload_n (j := 0) C d_X12_areTwo_116 rfl rfl ?_
                    refine V_iload_n (j := 3) C d_X12_areTwo_117 rfl rfl ?_
                    refine V_iconst C d_X12_areTwo_118 ?_
                    refine V_aload_n (j := 0) C d_X12_areTwo_119 rfl rfl ?_
                    refine V_getI C ck_12 fw_X12_108 d_X12_areTwo_120 h (fun v12 o12 h => ?_)
                    refine V_iadd C d_X12_areTwo_123 ?_
                    refine V_callVri (K' := K_X12_of) (a := x0) (ci := 12) (av := [iv_i x3, iv_i (wr_i (1 + v12))]) (rest := []) yi_X12_of (by decide) rfl C (yk_X12_of) l1_X12_98 (by decide) d_X12_areTwo_124 (fun v hv => ct_X12_of x0 x3 (wr_i (1 + v12)) o_x3 (ok_wr _) hv) rfl rfl (Nat.le_of_ble_eq_true rfl) h (fun v13 o13 h => ?_)
                    refine V_iload_n (j := 1) C d_X12_areTwo_127 rfl rfl ?_
                    refine V_icmp_ne (tgt := 149) C d_X12_areTwo_128 (by decide) o13 o_x1 h (fun h => ?_) (fun h => ?_)
                    · skip
                      refine V_aload_n (j := 0) C d_X12_areTwo_131 rfl rfl ?_
                      refine V_iload (j := 4) C d_X12_areTwo_132 rfl ?_
                      refine V_iconst C d_X12_areTwo_134 ?_
                      refine V_aload_n (j := 0) C d_X12_areTwo_135 rfl rfl ?_
                      refine V_getI C ck_12 fw_X12_108 d_X12_areTwo_136 h (fun v14 o14 h => ?_)
                      refine V_iadd C d_X12_areTwo_139 ?_
                      refine V_callVri (K' := K_X12_of) (a := x0) (ci := 12) (av := [iv_i x4, iv_i (wr_i (1 + v14))]) (rest := []) yi_X12_of (by decide) rfl C (yk_X12_of) l1_X12_98 (by decide) d_X12_areTwo_140 (fun v hv => ct_X12_of x0 x4 (wr_i (1 + v14)) o_x4 (ok_wr _) hv) rfl rfl (Nat.le_of_ble_eq_true rfl) h (fun v15 o15 h => ?_)
                      refine V_iload_n (j := 2) C d_X12_areTwo_143 rfl rfl ?_
                      refine V_icmp_ne (tgt := 149) C d_X12_areTwo_144 (by decide) o15 o_x2 h (fun h => ?_) (fun h => ?_)
                      · skip
                        refine V_iconst C d_X12_areTwo_147 ?_
                        exact V_zret_w C hR d_X12_areTwo_148 (Or.inr rfl) h
                      · skip
                        refine V_iinc (j := 4) (lv' := [(4, iv_i (wr_i (x4 + 1))), (0, .ref (G.1 + x0)), (1, iv_i x1), (2, iv_i x2), (3, iv_i x3)]) C d_X12_areTwo_149 rfl (by decide) rfl ?_
                        refine V_goto (tgt := 17) C d_X12_areTwo_152 (by decide) ?_
                        refine V_lv [1, 2, 3, 4, 0] rfl (ih z11.1 (wr_i (x4 + 1)) (ok_wr _) h)
                    · skip
                      refine V_iinc (j := 4) (lv' := [(4, iv_i (wr_i (x4 + 1))), (0, .ref (G.1 + x0)), (1, iv_i x1), (2, iv_i x2), (3, iv_i x3)]) C d_X12_areTwo_149 rfl (by decide) rfl ?_
                      refine V_goto (tgt := 17) C d_X12_areTwo_152 (by decide) ?_
                      refine V_lv [1, 2, 3, 4, 0] rfl (ih z11.1 (wr_i (x4 + 1)) (ok_wr _) h)
                  · skip
                    refine V_goto (tgt := 149) C d_X12_areTwo_113 (by decide) ?_
                    refine V_iinc (j := 4) (lv' := [(4, iv_i (wr_i (x4 + 1))), (0, .ref (G.1 + x0)), (1, iv_i x1), (2, iv_i x2), (3, iv_i x3)]) C d_X12_areTwo_149 rfl (by decide) rfl ?_
                    refine V_goto (tgt := 17) C d_X12_areTwo_152 (by decide) ?_
                    refine V_lv [1, 2, 3, 4, 0] rfl (ih z11.1 (wr_i (x4 + 1)) (ok_wr _) h)
          · skip
            refine V_iinc (j := 4) (lv' := [(4, iv_i (wr_i (x4 + 1))), (0, .ref (G.1 + x0)), (1, iv_i x1), (2, iv_i x2), (3, iv_i x3)]) C d_X12_areTwo_149 rfl (by decide) rfl ?_
            refine V_goto (tgt := 17) C d_X12_areTwo_152 (by decide) ?_
            refine V_lv [1, 2, 3, 4, 0] rfl (ih M (wr_i (x4 + 1)) (ok_wr _) h)
    · skip
      refine V_iinc (j := 3) (lv' := [(3, iv_i (wr_i (x3 + 1))), (0, .ref (G.1 + x0)), (1, iv_i x1), (2, iv_i x2), (4, iv_i x4)]) C d_X12_areTwo_155 rfl (by decide) rfl ?_
      refine V_goto (tgt := 2) C d_X12_areTwo_158 (by decide) ?_
      refine V_lv [1, 2, 3, 0] rfl (hk_2 M (wr_i (x3 + 1)) (ok_wr _) h)
set_option maxHeartbeats 4000000 in
set_option maxRecDepth 100000 in
theorem t_X12_areTwo_2 {X : XT_x} {G : GT_g} {z : (Mem_m × Int)} (C : Cx_ (K_X12_areTwo) X G) (hR : Rx_ X G (some .boolean)) (x0 : Nat) (x1 : Int) (x2 : Int) (o_x1 : ok_i x1) (o_x2 : ok_i x2) : ∀ (n : Nat) (M : Mem_m) (x3 : Int) (o_x3 : ok_i x3), f_X12_areTwo_2 G.2.2.2 x0 x1 x2 n M x3 = some z → V_ (K_X12_areTwo) X G (Fq_ X G (Qi_ G z.1 z.2)) M 2 [(0, .ref (G.1 + x0)), (1, iv_i x1), (2, iv_i x2), (3, iv_i x3)] [] := by
  intro n
  induction n with
  | zero => intro M x3 o_x3 h; exact absurd h (by simp [f_X12_areTwo_2])
  | succ n ih =>
    intro M x3 o_x3 h
    unfold f_X12_areTwo_2 at h
    refine V_iload_n (j := 3) C d_X12_areTwo_2 rfl rfl ?_
    refine V_aload_n (j := 0) C d_X12_areTwo_3 rfl rfl ?_
    refine V_getR C ck_12 fw_X12_9 d_X12_areTwo_4 h (fun v1 h => ?_)
    refine V_sipush (v := 1062) C d_X12_areTwo_7 rfl ?_
    refine V_iald C d_X12_areTwo_10 (okc rfl) h (fun v2 o2 h => ?_)
    refine V_icmp_ge (tgt := 161) C d_X12_areTwo_11 (by decide) o_x3 o2 h (fun h => ?_) (fun h => ?_)
    · skip
      refine V_iconst C d_X12_areTwo_14 ?_
      refine V_istore (lv' := [(4, iv_i 0), (0, .ref (G.1 + x0)), (1, iv_i x1), (2, iv_i x2), (3, iv_i x3)]) C d_X12_areTwo_15 (by decide) rfl ?_
      refine V_lv [1, 2, 3, 4, 0] rfl (t_X12_areTwo_17 C hR x0 x1 x2 x3 o_x1 o_x2 o_x3 (fun M x3 => f_X12_areTwo_2 G.2.2.2 x0 x1 x2 n M x3) (fun M x3 o_x3 h9 => ih M x3 o_x3 h9) FU_ M 0 (okc rfl) h)
    · skip
      refine V_iconst C d_X12_areTwo_161 ?_
      exact V_zret_w C hR d_X12_areTwo_162 (Or.inl rfl) h
set_option maxHeartbeats 4000000 in
set_option maxRecDepth 100000 in
theorem t_X12_areTwo {X : XT_x} {G : GT_g} {M : Mem_m} {z : (Mem_m × Int)} (C : Cx_ (K_X12_areTwo) X G) (hR : Rx_ X G (some .boolean)) (x0 : Nat) (x1 : Int) (x2 : Int) (o_x1 : ok_i x1) (o_x2 : ok_i x2) (h : f_X12_areTwo G.2.2.2 M x0 x1 x2 = some z) : V_ (K_X12_areTwo) X G (Fq_ X G (Qi_ G z.1 z.2)) M 0 [(0, .ref (G.1 + x0)), (1, iv_i x1), (2, iv_i x2)] [] := by
  unfold f_X12_areTwo at h
  refine V_iconst C d_X12_areTwo_0 ?_
  refine V_istore_n (lv' := [(3, iv_i 0), (0, .ref (G.1 + x0)), (1, iv_i x1), (2, iv_i x2)]) C d_X12_areTwo_1 rfl (by decide) rfl ?_
  refine V_lv [1, 2, 3, 0] rfl (t_X12_areTwo_2 C hR x0 x1 x2 o_x1 o_x2 FU_ M 0 (okc rfl) h)
set_option maxHeartbeats 4000000 in
set_option maxRecDepth 100000 in
theorem ct_X12_areTwo {l : Launch} {G : GT_g} {M : Mem_m} (x0 : Nat) (x1 : Int) (x2 : Int) (o_x1 : ok_i x1) (o_x2 : ok_i x2) {z : (Mem_m × Int)} (h : f_X12_areTwo G.2.2.2 M x0 x1 x2 = some z) : MI_ l yX12_areTwo K_X12_areTwo (some .boolean) G M [.ref (G.1 + x0), iv_i x1, iv_i x2] z.1 z.2 :=
  met_of (by decide +kernel) rfl (Nat.le_of_ble_eq_true rfl) (fun X hl C hR => by subst hl; exact t_X12_areTwo C hR x0 x1 x2 o_x1 o_x2 h)
