theorem d_X10_take_0 : decode cX10_take 0 = .ok (.aload_n 0, 1) := by decide +kernel
theorem d_X10_take_1 : decode cX10_take 1 = .ok (.aload_n 1, 1) := by decide +kernel
theorem d_X10_take_2 : decode cX10_take 2 = .ok (.getfield 15, 3) := by decide +kernel
theorem d_X10_take_5 : decode cX10_take 5 = .ok (.putfield 15, 3) := by decide +kernel
theorem d_X10_take_8 : decode cX10_take 8 = .ok (.aload_n 1, 1) := by decide +kernel
theorem d_X10_take_9 : decode cX10_take 9 = .ok (.getfield 9, 3) := by decide +kernel
theorem d_X10_take_12 : decode cX10_take 12 = .ok (.iconst 0, 1) := by decide +kernel
theorem d_X10_take_13 : decode cX10_take 13 = .ok (.aload_n 0, 1) := by decide +kernel
theorem d_X10_take_14 : decode cX10_take 14 = .ok (.getfield 9, 3) := by decide +kernel
theorem d_X10_take_17 : decode cX10_take 17 = .ok (.iconst 0, 1) := by decide +kernel
theorem d_X10_take_18 : decode cX10_take 18 = .ok (.bipush 8, 2) := by decide +kernel
theorem d_X10_take_20 : decode cX10_take 20 = .ok (.invokestatic 32, 3) := by decide +kernel
theorem d_X10_take_23 : decode cX10_take 23 = .ok (.return_, 1) := by decide +kernel
set_option maxHeartbeats 4000000 in
set_option maxRecDepth 100000 in
theorem t_X10_take {X : XT_x} {G : GT_g} {M : Mem_m} {z : Mem_m} (C : Cx_ (K_X10_take) X G) (hR : Rx_ X G none) (x0 : Nat) (x1 : Nat)  (h : f_X10_take G.2.2.2 M x0 x1 = some z) : V_ (K_X10_take) X G (Fq_ X G (Qv_ G z)) M 0 [(0, .ref (G.1 + x0)), (1, .ref (G.1 + x1))] [] := by
  unfold f_X10_take at h
  refine V_aload_n (j := 0) C d_X10_take_0 rfl rfl ?_
  refine V_aload_n (j := 1) C d_X10_take_1 rfl rfl ?_
  refine V_getI C ck_10 fw_X10_15 d_X10_take_2 h (fun v1 o1 h => ?_)
  refine V_putI C ck_10 fw_X10_15 fp_10_1 d_X10_take_5 o1 h (fun M2 h => ?_)
  refine V_aload_n (j := 1) C d_X10_take_8 rfl rfl ?_
  refine V_getR C ck_10 fw_X10_9 d_X10_take_9 h (fun v3 h => ?_)
  refine V_iconst C d_X10_take_12 ?_
  refine V_aload_n (j := 0) C d_X10_take_13 rfl rfl ?_
  refine V_getR C ck_10 fw_X10_9 d_X10_take_14 h (fun v4 h => ?_)
  refine V_iconst C d_X10_take_17 ?_
  refine V_bipush (v := 8) C d_X10_take_18 rfl ?_
  refine V_copy C l1_X10_32 ac_ok (by decide) (Nat.le_of_ble_eq_true rfl) d_X10_take_20 (okc rfl) (okc rfl) (okc rfl) h (fun M5 h => ?_)
  exact V_vret C hR d_X10_take_23 (Option.some.inj h)
set_option maxHeartbeats 4000000 in
set_option maxRecDepth 100000 in
theorem ct_X10_take {l : Launch} {G : GT_g} {M : Mem_m} (x0 : Nat) (x1 : Nat)  {z : Mem_m} (h : f_X10_take G.2.2.2 M x0 x1 = some z) : MV_ l yX10_take K_X10_take none G M [.ref (G.1 + x0), .ref (G.1 + x1)] z :=
  met_of (by decide +kernel) rfl (Nat.le_of_ble_eq_true rfl) (fun X hl C hR => by subst hl; exact t_X10_take C hR x0 x1  h)
theorem d_X1_take_0 : decode cX1_take 0 = .ok (.aload_n 0, 1) := by decide +kernel
theorem d_X1_take_1 : decode cX1_take 1 = .ok (.getfield 12, 3) := by decide +kernel
theorem d_X1_take_4 : decode cX1_take 4 = .ok (.aload_n 1, 1) := by decide +kernel
theorem d_X1_take_5 : decode cX1_take 5 = .ok (.getfield 12, 3) := by decide +kernel
theorem d_X1_take_8 : decode cX1_take 8 = .ok (.invokevirtual 42, 3) := by decide +kernel
theorem d_X1_take_11 : decode cX1_take 11 = .ok (.aload_n 0, 1) := by decide +kernel
theorem d_X1_take_12 : decode cX1_take 12 = .ok (.aload_n 1, 1) := by decide +kernel
theorem d_X1_take_13 : decode cX1_take 13 = .ok (.getfield 46, 3) := by decide +kernel
theorem d_X1_take_16 : decode cX1_take 16 = .ok (.putfield 46, 3) := by decide +kernel
theorem d_X1_take_19 : decode cX1_take 19 = .ok (.aload_n 0, 1) := by decide +kernel
theorem d_X1_take_20 : decode cX1_take 20 = .ok (.aload_n 1, 1) := by decide +kernel
theorem d_X1_take_21 : decode cX1_take 21 = .ok (.getfield 26, 3) := by decide +kernel
theorem d_X1_take_24 : decode cX1_take 24 = .ok (.putfield 26, 3) := by decide +kernel
theorem d_X1_take_27 : decode cX1_take 27 = .ok (.aload_n 0, 1) := by decide +kernel
theorem d_X1_take_28 : decode cX1_take 28 = .ok (.aload_n 1, 1) := by decide +kernel
theorem d_X1_take_29 : decode cX1_take 29 = .ok (.getfield 32, 3) := by decide +kernel
theorem d_X1_take_32 : decode cX1_take 32 = .ok (.putfield 32, 3) := by decide +kernel
theorem d_X1_take_35 : decode cX1_take 35 = .ok (.aload_n 0, 1) := by decide +kernel
theorem d_X1_take_36 : decode cX1_take 36 = .ok (.aload_n 1, 1) := by decide +kernel
theorem d_X1_take_37 : decode cX1_take 37 = .ok (.getfield 29, 3) := by decide +kernel
theorem d_X1_take_40 : decode cX1_take 40 = .ok (.putfield 29, 3) := by decide +kernel
theorem d_X1_take_43 : decode cX1_take 43 = .ok (.aload_n 0, 1) := by decide +kernel
theorem d_X1_take_44 : decode cX1_take 44 = .ok (.aload_n 1, 1) := by decide +kernel
theorem d_X1_take_45 : decode cX1_take 45 = .ok (.getfield 18, 3) := by decide +kernel
theorem d_X1_take_48 : decode cX1_take 48 = .ok (.putfield 18, 3) := by decide +kernel
theorem d_X1_take_51 : decode cX1_take 51 = .ok (.aload_n 0, 1) := by decide +kernel
theorem d_X1_take_52 : decode cX1_take 52 = .ok (.aload_n 1, 1) := by decide +kernel
theorem d_X1_take_53 : decode cX1_take 53 = .ok (.getfield 22, 3) := by decide +kernel
theorem d_X1_take_56 : decode cX1_take 56 = .ok (.putfield 22, 3) := by decide +kernel
theorem d_X1_take_59 : decode cX1_take 59 = .ok (.return_, 1) := by decide +kernel
set_option maxHeartbeats 4000000 in
set_option maxRecDepth 100000 in
theorem t_X1_take {X : XT_x} {G : GT_g} {M : Mem_m} {z : Mem_m} (C : Cx_ (K_X1_take) X G) (hR : Rx_ X G none) (x0 : Nat) (x1 : Nat)  (h : f_X1_take G.2.2.2 M x0 x1 = some z) : V_ (K_X1_take) X G (Fq_ X G (Qv_ G z)) M 0 [(0, .ref (G.1 + x0)), (1, .ref (G.1 + x1))] [] := by
  unfold f_X1_take at h
  refine V_aload_n (j := 0) C d_X1_take_0 rfl rfl ?_
  refine V_getR C ck_1 fw_X1_12 d_X1_take_1 h (fun v1 h => ?_)
  refine V_aload_n (j := 1) C d_X1_take_4 rfl rfl ?_
  refine V_getR C ck_1 fw_X1_12 d_X1_take_5 h (fun v2 h => ?_)
  refine V_callVwv (K' := K_X10_take) (a := v1) (ci := 10) (av := [.ref (G.1 + v2)]) (rest := []) yi_X10_take (by decide) rfl C (yk_X10_take) l1_X1_42 (by decide) d_X1_take_8 (fun v hv => ct_X10_take v1 v2 hv) rfl rfl (Nat.le_of_ble_eq_true rfl) h (fun M3 h => ?_)
  refine V_aload_n (j := 0) C d_X1_take_11 rfl rfl ?_
  refine V_aload_n (j := 1) C d_X1_take_12 rfl rfl ?_
  refine V_getI C ck_1 fw_X1_46 d_X1_take_13 h (fun v4 o4 h => ?_)
  refine V_putI C ck_1 fw_X1_46 fp_1_1 d_X1_take_16 o4 h (fun M5 h => ?_)
  refine V_aload_n (j := 0) C d_X1_take_19 rfl rfl ?_
  refine V_aload_n (j := 1) C d_X1_take_20 rfl rfl ?_
  refine V_getI C ck_1 fw_X1_26 d_X1_take_21 h (fun v6 o6 h => ?_)
  refine V_putI C ck_1 fw_X1_26 fp_1_2 d_X1_take_24 o6 h (fun M7 h => ?_)
  refine V_aload_n (j := 0) C d_X1_take_27 rfl rfl ?_
  refine V_aload_n (j := 1) C d_X1_take_28 rfl rfl ?_
  refine V_getI C ck_1 fw_X1_32 d_X1_take_29 h (fun v8 o8 h => ?_)
  refine V_putI C ck_1 fw_X1_32 fp_1_3 d_X1_take_32 o8 h (fun M9 h => ?_)
  refine V_aload_n (j := 0) C d_X1_take_35 rfl rfl ?_
  refine V_aload_n (j := 1) C d_X1_take_36 rfl rfl ?_
  refine V_getI C ck_1 fw_X1_29 d_X1_take_37 h (fun v10 o10 h => ?_)
  refine V_putI C ck_1 fw_X1_29 fp_1_4 d_X1_take_40 o10 h (fun M11 h => ?_)
  refine V_aload_n (j := 0) C d_X1_take_43 rfl rfl ?_
  refine V_aload_n (j := 1) C d_X1_take_44 rfl rfl ?_
  refine V_getI C ck_1 fw_X1_18 d_X1_take_45 h (fun v12 o12 h => ?_)
  refine V_putZ C ck_1 fw_X1_18 fp_1_5 d_X1_take_48 o12 h (fun M13 h => ?_)
  refine V_aload_n (j := 0) C d_X1_take_51 rfl rfl ?_
  refine V_aload_n (j := 1) C d_X1_take_52 rfl rfl ?_
  refine V_getI C ck_1 fw_X1_22 d_X1_take_53 h (fun v14 o14 h => ?_)
  refine V_putI C ck_1 fw_X1_22 fp_1_6 d_X1_take_56 o14 h (fun M15 h => ?_)
  exact V_vret C hR d_X1_take_59 (Option.some.inj h)
set_option maxHeartbeats 4000000 in
set_option maxRecDepth 100000 in
theorem ct_X1_take {l : Launch} {G : GT_g} {M : Mem_m} (x0 : Nat) (x1 : Nat)  {z : Mem_m} (h : f_X1_take G.2.2.2 M x0 x1 = some z) : MV_ l yX1_take K_X1_take none G M [.ref (G.1 + x0), .ref (G.1 + x1)] z :=
  met_of (by decide +kernel) rfl (Nat.le_of_ble_eq_true rfl) (fun X hl C hR => by subst hl; exact t_X1_take C hR x0 x1  h)
theorem d_X5_take_0 : decode cX5_take 0 = .ok (.aload_n 0, 1) := by decide +kernel
theorem d_X5_take_1 : decode cX5_take 1 = .ok (.aload_n 1, 1) := by decide +kernel
theorem d_X5_take_2 : decode cX5_take 2 = .ok (.getfield 21, 3) := by decide +kernel
theorem d_X5_take_5 : decode cX5_take 5 = .ok (.putfield 21, 3) := by decide +kernel
theorem d_X5_take_8 : decode cX5_take 8 = .ok (.aload_n 0, 1) := by decide +kernel
theorem d_X5_take_9 : decode cX5_take 9 = .ok (.aload_n 1, 1) := by decide +kernel
theorem d_X5_take_10 : decode cX5_take 10 = .ok (.getfield 25, 3) := by decide +kernel
theorem d_X5_take_13 : decode cX5_take 13 = .ok (.putfield 25, 3) := by decide +kernel
theorem d_X5_take_16 : decode cX5_take 16 = .ok (.aload_n 0, 1) := by decide +kernel
theorem d_X5_take_17 : decode cX5_take 17 = .ok (.getfield 12, 3) := by decide +kernel
theorem d_X5_take_20 : decode cX5_take 20 = .ok (.aload_n 1, 1) := by decide +kernel
theorem d_X5_take_21 : decode cX5_take 21 = .ok (.getfield 12, 3) := by decide +kernel
theorem d_X5_take_24 : decode cX5_take 24 = .ok (.invokevirtual 32, 3) := by decide +kernel
theorem d_X5_take_27 : decode cX5_take 27 = .ok (.aload_n 0, 1) := by decide +kernel
theorem d_X5_take_28 : decode cX5_take 28 = .ok (.getfield 18, 3) := by decide +kernel
theorem d_X5_take_31 : decode cX5_take 31 = .ok (.aload_n 1, 1) := by decide +kernel
theorem d_X5_take_32 : decode cX5_take 32 = .ok (.getfield 18, 3) := by decide +kernel
theorem d_X5_take_35 : decode cX5_take 35 = .ok (.invokevirtual 32, 3) := by decide +kernel
theorem d_X5_take_38 : decode cX5_take 38 = .ok (.return_, 1) := by decide +kernel
set_option maxHeartbeats 4000000 in
set_option maxRecDepth 100000 in
theorem t_X5_take {X : XT_x} {G : GT_g} {M : Mem_m} {z : Mem_m} (C : Cx_ (K_X5_take) X G) (hR : Rx_ X G none) (x0 : Nat) (x1 : Nat)  (h : f_X5_take G.2.2.2 M x0 x1 = some z) : V_ (K_X5_take) X G (Fq_ X G (Qv_ G z)) M 0 [(0, .ref (G.1 + x0)), (1, .ref (G.1 + x1))] [] := by
  unfold f_X5_take at h
  refine V_aload_n (j := 0) C d_X5_take_0 rfl rfl ?_
  refine V_aload_n (j := 1) C d_X5_take_1 rfl rfl ?_
  refine V_getI C ck_5 fw_X5_21 d_X5_take_2 h (fun v1 o1 h => ?_)
  refine V_putI C ck_5 fw_X5_21 fp_5_0 d_X5_take_5 o1 h (fun M2 h => ?_)
  refine V_aload_n (j := 0) C d_X5_take_8 rfl rfl ?_
  refine V_aload_n (j := 1) C d_X5_take_9 rfl rfl ?_
  refine V_getI C ck_5 fw_X5_25 d_X5_take_10 h (fun v3 o3 h => ?_)
  refine V_putI C ck_5 fw_X5_25 fp_5_1 d_X5_take_13 o3 h (fun M4 h => ?_)
  refine V_aload_n (j := 0) C d_X5_take_16 rfl rfl ?_
  refine V_getR C ck_5 fw_X5_12 d_X5_take_17 h (fun v5 h => ?_)
  refine V_aload_n (j := 1) C d_X5_take_20 rfl rfl ?_
  refine V_getR C ck_5 fw_X5_12 d_X5_take_21 h (fun v6 h => ?_)
  refine V_callVwv (K' := K_X10_take) (a := v5) (ci := 10) (av := [.ref (G.1 + v6)]) (rest := []) yi_X10_take (by decide) rfl C (yk_X10_take) l1_X5_32 (by decide) d_X5_take_24 (fun v hv => ct_X10_take v5 v6 hv) rfl rfl (Nat.le_of_ble_eq_true rfl) h (fun M7 h => ?_)
  refine V_aload_n (j := 0) C d_X5_take_27 rfl rfl ?_
  refine V_getR C ck_5 fw_X5_18 d_X5_take_28 h (fun v8 h => ?_)
  refine V_aload_n (j := 1) C d_X5_take_31 rfl rfl ?_
  refine V_getR C ck_5 fw_X5_18 d_X5_take_32 h (fun v9 h => ?_)
  refine V_callVwv (K' := K_X10_take) (a := v8) (ci := 10) (av := [.ref (G.1 + v9)]) (rest := []) yi_X10_take (by decide) rfl C (yk_X10_take) l1_X5_32 (by decide) d_X5_take_35 (fun v hv => ct_X10_take v8 v9 hv) rfl rfl (Nat.le_of_ble_eq_true rfl) h (fun M10 h => ?_)
  exact V_vret C hR d_X5_take_38 (Option.some.inj h)
set_option maxHeartbeats 4000000 in
set_option maxRecDepth 100000 in
theorem ct_X5_take {l : Launch} {G : GT_g} {M : Mem_m} (x0 : Nat) (x1 : Nat)  {z : Mem_m} (h : f_X5_take G.2.2.2 M x0 x1 = some z) : MV_ l yX5_take K_X5_take none G M [.ref (G.1 + x0), .ref (G.1 + x1)] z :=
  met_of (by decide +kernel) rfl (Nat.le_of_ble_eq_true rfl) (fun X hl C hR => by subst hl; exact t_X5_take C hR x0 x1  h)
theorem d_X7_take_0 : decode cX7_take 0 = .ok (.aload_n 0, 1) := by decide +kernel
theorem d_X7_take_1 : decode cX7_take 1 = .ok (.aload_n 1, 1) := by decide +kernel
theorem d_X7_take_2 : decode cX7_take 2 = .ok (.getfield 11, 3) := by decide +kernel
theorem d_X7_take_5 : decode cX7_take 5 = .ok (.putfield 11, 3) := by decide +kernel
theorem d_X7_take_8 : decode cX7_take 8 = .ok (.aload_n 0, 1) := by decide +kernel
theorem d_X7_take_9 : decode cX7_take 9 = .ok (.aload_n 1, 1) := by decide +kernel
theorem d_X7_take_10 : decode cX7_take 10 = .ok (.getfield 15, 3) := by decide +kernel
theorem d_X7_take_13 : decode cX7_take 13 = .ok (.putfield 15, 3) := by decide +kernel
theorem d_X7_take_16 : decode cX7_take 16 = .ok (.aload_n 0, 1) := by decide +kernel
theorem d_X7_take_17 : decode cX7_take 17 = .ok (.aload_n 1, 1) := by decide +kernel
theorem d_X7_take_18 : decode cX7_take 18 = .ok (.getfield 18, 3) := by decide +kernel
theorem d_X7_take_21 : decode cX7_take 21 = .ok (.putfield 18, 3) := by decide +kernel
theorem d_X7_take_24 : decode cX7_take 24 = .ok (.aload_n 0, 1) := by decide +kernel
theorem d_X7_take_25 : decode cX7_take 25 = .ok (.aload_n 1, 1) := by decide +kernel
theorem d_X7_take_26 : decode cX7_take 26 = .ok (.getfield 21, 3) := by decide +kernel
theorem d_X7_take_29 : decode cX7_take 29 = .ok (.putfield 21, 3) := by decide +kernel
theorem d_X7_take_32 : decode cX7_take 32 = .ok (.return_, 1) := by decide +kernel
set_option maxHeartbeats 4000000 in
set_option maxRecDepth 100000 in
theorem t_X7_take {X : XT_x} {G : GT_g} {M : Mem_m} {z : Mem_m} (C : Cx_ (K_X7_take) X G) (hR : Rx_ X G none) (x0 : Nat) (x1 : Nat)  (h : f_X7_take G.2.2.2 M x0 x1 = some z) : V_ (K_X7_take) X G (Fq_ X G (Qv_ G z)) M 0 [(0, .ref (G.1 + x0)), (1, .ref (G.1 + x1))] [] := by
  unfold f_X7_take at h
  refine V_aload_n (j := 0) C d_X7_take_0 rfl rfl ?_
  refine V_aload_n (j := 1) C d_X7_take_1 rfl rfl ?_
  refine V_getI C ck_7 fw_X7_11 d_X7_take_2 h (fun v1 o1 h => ?_)
  refine V_putI C ck_7 fw_X7_11 fp_7_0 d_X7_take_5 o1 h (fun M2 h => ?_)
  refine V_aload_n (j := 0) C d_X7_take_8 rfl rfl ?_
  refine V_aload_n (j := 1) C d_X7_take_9 rfl rfl ?_
  refine V_getI C ck_7 fw_X7_15 d_X7_take_10 h (fun v3 o3 h => ?_)
  refine V_putI C ck_7 fw_X7_15 fp_7_1 d_X7_take_13 o3 h (fun M4 h => ?_)
  refine V_aload_n (j := 0) C d_X7_take_16 rfl rfl ?_
  refine V_aload_n (j := 1) C d_X7_take_17 rfl rfl ?_
  refine V_getI C ck_7 fw_X7_18 d_X7_take_18 h (fun v5 o5 h => ?_)
  refine V_putI C ck_7 fw_X7_18 fp_7_2 d_X7_take_21 o5 h (fun M6 h => ?_)
  refine V_aload_n (j := 0) C d_X7_take_24 rfl rfl ?_
  refine V_aload_n (j := 1) C d_X7_take_25 rfl rfl ?_
  refine V_getI C ck_7 fw_X7_21 d_X7_take_26 h (fun v7 o7 h => ?_)
  refine V_putI C ck_7 fw_X7_21 fp_7_3 d_X7_take_29 o7 h (fun M8 h => ?_)
  exact V_vret C hR d_X7_take_32 (Option.some.inj h)
set_option maxHeartbeats 4000000 in
set_option maxRecDepth 100000 in
theorem ct_X7_take {l : Launch} {G : GT_g} {M : Mem_m} (x0 : Nat) (x1 : Nat)  {z : Mem_m} (h : f_X7_take G.2.2.2 M x0 x1 = some z) : MV_ l yX7_take K_X7_take none G M [.ref (G.1 + x0), .ref (G.1 + x1)] z :=
  met_of (by decide +kernel) rfl (Nat.le_of_ble_eq_true rfl) (fun X hl C hR => by subst hl; exact t_X7_take C hR x0 x1  h)
theorem d_X8_take_0 : decode cX8_take 0 = .ok (.aload_n 0, 1) := by decide +kernel
theorem d_X8_take_1 : decode cX8_take 1 = .ok (.aload_n 1, 1) := by decide +kernel
theorem d_X8_take_2 : decode cX8_take 2 = .ok (.getfield 7, 3) := by decide +kernel
theorem d_X8_take_5 : decode cX8_take 5 = .ok (.putfield 7, 3) := by decide +kernel
theorem d_X8_take_8 : decode cX8_take 8 = .ok (.aload_n 0, 1) := by decide +kernel
theorem d_X8_take_9 : decode cX8_take 9 = .ok (.aload_n 1, 1) := by decide +kernel
theorem d_X8_take_10 : decode cX8_take 10 = .ok (.getfield 13, 3) := by decide +kernel
theorem d_X8_take_13 : decode cX8_take 13 = .ok (.putfield 13, 3) := by decide +kernel
theorem d_X8_take_16 : decode cX8_take 16 = .ok (.aload_n 0, 1) := by decide +kernel
theorem d_X8_take_17 : decode cX8_take 17 = .ok (.aload_n 1, 1) := by decide +kernel
theorem d_X8_take_18 : decode cX8_take 18 = .ok (.getfield 16, 3) := by decide +kernel
theorem d_X8_take_21 : decode cX8_take 21 = .ok (.putfield 16, 3) := by decide +kernel
theorem d_X8_take_24 : decode cX8_take 24 = .ok (.return_, 1) := by decide +kernel
set_option maxHeartbeats 4000000 in
set_option maxRecDepth 100000 in
theorem t_X8_take {X : XT_x} {G : GT_g} {M : Mem_m} {z : Mem_m} (C : Cx_ (K_X8_take) X G) (hR : Rx_ X G none) (x0 : Nat) (x1 : Nat)  (h : f_X8_take G.2.2.2 M x0 x1 = some z) : V_ (K_X8_take) X G (Fq_ X G (Qv_ G z)) M 0 [(0, .ref (G.1 + x0)), (1, .ref (G.1 + x1))] [] := by
  unfold f_X8_take at h
  refine V_aload_n (j := 0) C d_X8_take_0 rfl rfl ?_
  refine V_aload_n (j := 1) C d_X8_take_1 rfl rfl ?_
  refine V_getI C ck_8 fw_X8_7 d_X8_take_2 h (fun v1 o1 h => ?_)
  refine V_putI C ck_8 fw_X8_7 fp_8_0 d_X8_take_5 o1 h (fun M2 h => ?_)
  refine V_aload_n (j := 0) C d_X8_take_8 rfl rfl ?_
  refine V_aload_n (j := 1) C d_X8_take_9 rfl rfl ?_
  refine V_getI C ck_8 fw_X8_13 d_X8_take_10 h (fun v3 o3 h => ?_)
  refine V_putI C ck_8 fw_X8_13 fp_8_1 d_X8_take_13 o3 h (fun M4 h => ?_)
  refine V_aload_n (j := 0) C d_X8_take_16 rfl rfl ?_
  refine V_aload_n (j := 1) C d_X8_take_17 rfl rfl ?_
  refine V_getI C ck_8 fw_X8_16 d_X8_take_18 h (fun v5 o5 h => ?_)
  refine V_putI C ck_8 fw_X8_16 fp_8_2 d_X8_take_21 o5 h (fun M6 h => ?_)
  exact V_vret C hR d_X8_take_24 (Option.some.inj h)
set_option maxHeartbeats 4000000 in
set_option maxRecDepth 100000 in
theorem ct_X8_take {l : Launch} {G : GT_g} {M : Mem_m} (x0 : Nat) (x1 : Nat)  {z : Mem_m} (h : f_X8_take G.2.2.2 M x0 x1 = some z) : MV_ l yX8_take K_X8_take none G M [.ref (G.1 + x0), .ref (G.1 + x1)] z :=
  met_of (by decide +kernel) rfl (Nat.le_of_ble_eq_true rfl) (fun X hl C hR => by subst hl; exact t_X8_take C hR x0 x1  h)
theorem d_X0_take_0 : decode cX0_take 0 = .ok (.aload_n 1, 1) := by decide +kernel
theorem d_X0_take_1 : decode cX0_take 1 = .ok (.getfield 9, 3) := by decide +kernel
theorem d_X0_take_4 : decode cX0_take 4 = .ok (.iconst 0, 1) := by decide +kernel
theorem d_X0_take_5 : decode cX0_take 5 = .ok (.aload_n 0, 1) := by decide +kernel
theorem d_X0_take_6 : decode cX0_take 6 = .ok (.getfield 9, 3) := by decide +kernel
theorem d_X0_take_9 : decode cX0_take 9 = .ok (.iconst 0, 1) := by decide +kernel
theorem d_X0_take_10 : decode cX0_take 10 = .ok (.bipush 10, 2) := by decide +kernel
theorem d_X0_take_12 : decode cX0_take 12 = .ok (.invokestatic 59, 3) := by decide +kernel
theorem d_X0_take_15 : decode cX0_take 15 = .ok (.aload_n 1, 1) := by decide +kernel
theorem d_X0_take_16 : decode cX0_take 16 = .ok (.getfield 15, 3) := by decide +kernel
theorem d_X0_take_19 : decode cX0_take 19 = .ok (.iconst 0, 1) := by decide +kernel
theorem d_X0_take_20 : decode cX0_take 20 = .ok (.aload_n 0, 1) := by decide +kernel
theorem d_X0_take_21 : decode cX0_take 21 = .ok (.getfield 15, 3) := by decide +kernel
theorem d_X0_take_24 : decode cX0_take 24 = .ok (.iconst 0, 1) := by decide +kernel
theorem d_X0_take_25 : decode cX0_take 25 = .ok (.bipush 8, 2) := by decide +kernel
theorem d_X0_take_27 : decode cX0_take 27 = .ok (.invokestatic 59, 3) := by decide +kernel
theorem d_X0_take_30 : decode cX0_take 30 = .ok (.aload_n 1, 1) := by decide +kernel
theorem d_X0_take_31 : decode cX0_take 31 = .ok (.getfield 18, 3) := by decide +kernel
theorem d_X0_take_34 : decode cX0_take 34 = .ok (.iconst 0, 1) := by decide +kernel
theorem d_X0_take_35 : decode cX0_take 35 = .ok (.aload_n 0, 1) := by decide +kernel
theorem d_X0_take_36 : decode cX0_take 36 = .ok (.getfield 18, 3) := by decide +kernel
theorem d_X0_take_39 : decode cX0_take 39 = .ok (.iconst 0, 1) := by decide +kernel
theorem d_X0_take_40 : decode cX0_take 40 = .ok (.bipush 8, 2) := by decide +kernel
theorem d_X0_take_42 : decode cX0_take 42 = .ok (.invokestatic 59, 3) := by decide +kernel
theorem d_X0_take_45 : decode cX0_take 45 = .ok (.aload_n 1, 1) := by decide +kernel
theorem d_X0_take_46 : decode cX0_take 46 = .ok (.getfield 51, 3) := by decide +kernel
theorem d_X0_take_49 : decode cX0_take 49 = .ok (.iconst 0, 1) := by decide +kernel
theorem d_X0_take_50 : decode cX0_take 50 = .ok (.aload_n 0, 1) := by decide +kernel
theorem d_X0_take_51 : decode cX0_take 51 = .ok (.getfield 51, 3) := by decide +kernel
theorem d_X0_take_54 : decode cX0_take 54 = .ok (.iconst 0, 1) := by decide +kernel
theorem d_X0_take_55 : decode cX0_take 55 = .ok (.bipush 10, 2) := by decide +kernel
theorem d_X0_take_57 : decode cX0_take 57 = .ok (.invokestatic 59, 3) := by decide +kernel
theorem d_X0_take_60 : decode cX0_take 60 = .ok (.aload_n 0, 1) := by decide +kernel
theorem d_X0_take_61 : decode cX0_take 61 = .ok (.aload_n 1, 1) := by decide +kernel
theorem d_X0_take_62 : decode cX0_take 62 = .ok (.getfield 65, 3) := by decide +kernel
theorem d_X0_take_65 : decode cX0_take 65 = .ok (.putfield 65, 3) := by decide +kernel
theorem d_X0_take_68 : decode cX0_take 68 = .ok (.iconst 0, 1) := by decide +kernel
theorem d_X0_take_69 : decode cX0_take 69 = .ok (.istore_n 2, 1) := by decide +kernel
theorem d_X0_take_70 : decode cX0_take 70 = .ok (.iload_n 2, 1) := by decide +kernel
theorem d_X0_take_71 : decode cX0_take 71 = .ok (.aload_n 0, 1) := by decide +kernel
theorem d_X0_take_72 : decode cX0_take 72 = .ok (.getfield 65, 3) := by decide +kernel
theorem d_X0_take_75 : decode cX0_take 75 = .ok (.if_icmp .ge 24, 3) := by decide +kernel
theorem d_X0_take_78 : decode cX0_take 78 = .ok (.aload_n 0, 1) := by decide +kernel
theorem d_X0_take_79 : decode cX0_take 79 = .ok (.getfield 23, 3) := by decide +kernel
theorem d_X0_take_82 : decode cX0_take 82 = .ok (.iload_n 2, 1) := by decide +kernel
theorem d_X0_take_83 : decode cX0_take 83 = .ok (.aaload, 1) := by decide +kernel
theorem d_X0_take_84 : decode cX0_take 84 = .ok (.aload_n 1, 1) := by decide +kernel
theorem d_X0_take_85 : decode cX0_take 85 = .ok (.getfield 23, 3) := by decide +kernel
theorem d_X0_take_88 : decode cX0_take 88 = .ok (.iload_n 2, 1) := by decide +kernel
theorem d_X0_take_89 : decode cX0_take 89 = .ok (.aaload, 1) := by decide +kernel
theorem d_X0_take_90 : decode cX0_take 90 = .ok (.invokevirtual 69, 3) := by decide +kernel
theorem d_X0_take_93 : decode cX0_take 93 = .ok (.iinc 2 1, 3) := by decide +kernel
theorem d_X0_take_96 : decode cX0_take 96 = .ok (.goto (-26), 3) := by decide +kernel
theorem d_X0_take_99 : decode cX0_take 99 = .ok (.aload_n 0, 1) := by decide +kernel
theorem d_X0_take_100 : decode cX0_take 100 = .ok (.aload_n 1, 1) := by decide +kernel
theorem d_X0_take_101 : decode cX0_take 101 = .ok (.getfield 73, 3) := by decide +kernel
theorem d_X0_take_104 : decode cX0_take 104 = .ok (.putfield 73, 3) := by decide +kernel
theorem d_X0_take_107 : decode cX0_take 107 = .ok (.aload_n 0, 1) := by decide +kernel
theorem d_X0_take_108 : decode cX0_take 108 = .ok (.aload_n 1, 1) := by decide +kernel
theorem d_X0_take_109 : decode cX0_take 109 = .ok (.getfield 76, 3) := by decide +kernel
theorem d_X0_take_112 : decode cX0_take 112 = .ok (.putfield 76, 3) := by decide +kernel
theorem d_X0_take_115 : decode cX0_take 115 = .ok (.iconst 0, 1) := by decide +kernel
theorem d_X0_take_116 : decode cX0_take 116 = .ok (.istore_n 2, 1) := by decide +kernel
theorem d_X0_take_117 : decode cX0_take 117 = .ok (.iload_n 2, 1) := by decide +kernel
theorem d_X0_take_118 : decode cX0_take 118 = .ok (.aload_n 0, 1) := by decide +kernel
theorem d_X0_take_119 : decode cX0_take 119 = .ok (.getfield 76, 3) := by decide +kernel
theorem d_X0_take_122 : decode cX0_take 122 = .ok (.if_icmp .ge 24, 3) := by decide +kernel
theorem d_X0_take_125 : decode cX0_take 125 = .ok (.aload_n 0, 1) := by decide +kernel
theorem d_X0_take_126 : decode cX0_take 126 = .ok (.getfield 29, 3) := by decide +kernel
theorem d_X0_take_129 : decode cX0_take 129 = .ok (.iload_n 2, 1) := by decide +kernel
theorem d_X0_take_130 : decode cX0_take 130 = .ok (.aaload, 1) := by decide +kernel
theorem d_X0_take_131 : decode cX0_take 131 = .ok (.aload_n 1, 1) := by decide +kernel
theorem d_X0_take_132 : decode cX0_take 132 = .ok (.getfield 29, 3) := by decide +kernel
theorem d_X0_take_135 : decode cX0_take 135 = .ok (.iload_n 2, 1) := by decide +kernel
theorem d_X0_take_136 : decode cX0_take 136 = .ok (.aaload, 1) := by decide +kernel
theorem d_X0_take_137 : decode cX0_take 137 = .ok (.invokevirtual 79, 3) := by decide +kernel
theorem d_X0_take_140 : decode cX0_take 140 = .ok (.iinc 2 1, 3) := by decide +kernel
theorem d_X0_take_143 : decode cX0_take 143 = .ok (.goto (-26), 3) := by decide +kernel
theorem d_X0_take_146 : decode cX0_take 146 = .ok (.aload_n 0, 1) := by decide +kernel
theorem d_X0_take_147 : decode cX0_take 147 = .ok (.aload_n 1, 1) := by decide +kernel
theorem d_X0_take_148 : decode cX0_take 148 = .ok (.getfield 82, 3) := by decide +kernel
theorem d_X0_take_151 : decode cX0_take 151 = .ok (.putfield 82, 3) := by decide +kernel
theorem d_X0_take_154 : decode cX0_take 154 = .ok (.iconst 0, 1) := by decide +kernel
theorem d_X0_take_155 : decode cX0_take 155 = .ok (.istore_n 2, 1) := by decide +kernel
theorem d_X0_take_156 : decode cX0_take 156 = .ok (.iload_n 2, 1) := by decide +kernel
theorem d_X0_take_157 : decode cX0_take 157 = .ok (.aload_n 0, 1) := by decide +kernel
theorem d_X0_take_158 : decode cX0_take 158 = .ok (.getfield 82, 3) := by decide +kernel
theorem d_X0_take_161 : decode cX0_take 161 = .ok (.if_icmp .ge 24, 3) := by decide +kernel
theorem d_X0_take_164 : decode cX0_take 164 = .ok (.aload_n 0, 1) := by decide +kernel
theorem d_X0_take_165 : decode cX0_take 165 = .ok (.getfield 35, 3) := by decide +kernel
theorem d_X0_take_168 : decode cX0_take 168 = .ok (.iload_n 2, 1) := by decide +kernel
theorem d_X0_take_169 : decode cX0_take 169 = .ok (.aaload, 1) := by decide +kernel
theorem d_X0_take_170 : decode cX0_take 170 = .ok (.aload_n 1, 1) := by decide +kernel
theorem d_X0_take_171 : decode cX0_take 171 = .ok (.getfield 35, 3) := by decide +kernel
theorem d_X0_take_174 : decode cX0_take 174 = .ok (.iload_n 2, 1) := by decide +kernel
theorem d_X0_take_175 : decode cX0_take 175 = .ok (.aaload, 1) := by decide +kernel
theorem d_X0_take_176 : decode cX0_take 176 = .ok (.invokevirtual 85, 3) := by decide +kernel
theorem d_X0_take_179 : decode cX0_take 179 = .ok (.iinc 2 1, 3) := by decide +kernel
theorem d_X0_take_182 : decode cX0_take 182 = .ok (.goto (-26), 3) := by decide +kernel
theorem d_X0_take_185 : decode cX0_take 185 = .ok (.aload_n 0, 1) := by decide +kernel
theorem d_X0_take_186 : decode cX0_take 186 = .ok (.aload_n 1, 1) := by decide +kernel
theorem d_X0_take_187 : decode cX0_take 187 = .ok (.getfield 88, 3) := by decide +kernel
theorem d_X0_take_190 : decode cX0_take 190 = .ok (.putfield 88, 3) := by decide +kernel
theorem d_X0_take_193 : decode cX0_take 193 = .ok (.iconst 0, 1) := by decide +kernel
theorem d_X0_take_194 : decode cX0_take 194 = .ok (.istore_n 2, 1) := by decide +kernel
theorem d_X0_take_195 : decode cX0_take 195 = .ok (.iload_n 2, 1) := by decide +kernel
theorem d_X0_take_196 : decode cX0_take 196 = .ok (.aload_n 0, 1) := by decide +kernel
theorem d_X0_take_197 : decode cX0_take 197 = .ok (.getfield 88, 3) := by decide +kernel
theorem d_X0_take_200 : decode cX0_take 200 = .ok (.if_icmp .ge 24, 3) := by decide +kernel
theorem d_X0_take_203 : decode cX0_take 203 = .ok (.aload_n 0, 1) := by decide +kernel
theorem d_X0_take_204 : decode cX0_take 204 = .ok (.getfield 41, 3) := by decide +kernel
theorem d_X0_take_207 : decode cX0_take 207 = .ok (.iload_n 2, 1) := by decide +kernel
theorem d_X0_take_208 : decode cX0_take 208 = .ok (.aaload, 1) := by decide +kernel
theorem d_X0_take_209 : decode cX0_take 209 = .ok (.aload_n 1, 1) := by decide +kernel
theorem d_X0_take_210 : decode cX0_take 210 = .ok (.getfield 41, 3) := by decide +kernel
theorem d_X0_take_213 : decode cX0_take 213 = .ok (.iload_n 2, 1) := by decide +kernel
theorem d_X0_take_214 : decode cX0_take 214 = .ok (.aaload, 1) := by decide +kernel
theorem d_X0_take_215 : decode cX0_take 215 = .ok (.invokevirtual 91, 3) := by decide +kernel
theorem d_X0_take_218 : decode cX0_take 218 = .ok (.iinc 2 1, 3) := by decide +kernel
theorem d_X0_take_221 : decode cX0_take 221 = .ok (.goto (-26), 3) := by decide +kernel
theorem d_X0_take_224 : decode cX0_take 224 = .ok (.aload_n 0, 1) := by decide +kernel
theorem d_X0_take_225 : decode cX0_take 225 = .ok (.aload_n 1, 1) := by decide +kernel
theorem d_X0_take_226 : decode cX0_take 226 = .ok (.getfield 94, 3) := by decide +kernel
theorem d_X0_take_229 : decode cX0_take 229 = .ok (.putfield 94, 3) := by decide +kernel
theorem d_X0_take_232 : decode cX0_take 232 = .ok (.iconst 0, 1) := by decide +kernel
theorem d_X0_take_233 : decode cX0_take 233 = .ok (.istore_n 2, 1) := by decide +kernel
theorem d_X0_take_234 : decode cX0_take 234 = .ok (.iload_n 2, 1) := by decide +kernel
theorem d_X0_take_235 : decode cX0_take 235 = .ok (.aload_n 0, 1) := by decide +kernel
theorem d_X0_take_236 : decode cX0_take 236 = .ok (.getfield 94, 3) := by decide +kernel
theorem d_X0_take_239 : decode cX0_take 239 = .ok (.if_icmp .ge 24, 3) := by decide +kernel
theorem d_X0_take_242 : decode cX0_take 242 = .ok (.aload_n 0, 1) := by decide +kernel
theorem d_X0_take_243 : decode cX0_take 243 = .ok (.getfield 47, 3) := by decide +kernel
theorem d_X0_take_246 : decode cX0_take 246 = .ok (.iload_n 2, 1) := by decide +kernel
theorem d_X0_take_247 : decode cX0_take 247 = .ok (.aaload, 1) := by decide +kernel
theorem d_X0_take_248 : decode cX0_take 248 = .ok (.aload_n 1, 1) := by decide +kernel
theorem d_X0_take_249 : decode cX0_take 249 = .ok (.getfield 47, 3) := by decide +kernel
theorem d_X0_take_252 : decode cX0_take 252 = .ok (.iload_n 2, 1) := by decide +kernel
theorem d_X0_take_253 : decode cX0_take 253 = .ok (.aaload, 1) := by decide +kernel
theorem d_X0_take_254 : decode cX0_take 254 = .ok (.invokevirtual 97, 3) := by decide +kernel
theorem d_X0_take_257 : decode cX0_take 257 = .ok (.iinc 2 1, 3) := by decide +kernel
theorem d_X0_take_260 : decode cX0_take 260 = .ok (.goto (-26), 3) := by decide +kernel
theorem d_X0_take_263 : decode cX0_take 263 = .ok (.return_, 1) := by decide +kernel
set_option maxHeartbeats 4000000 in
set_option maxRecDepth 100000 in
theorem t_X0_take_234 {X : XT_x} {G : GT_g} {z : Mem_m} (C : Cx_ (K_X0_take) X G) (hR : Rx_ X G none) (x0 : Nat) (x1 : Nat) : ∀ (n : Nat) (M : Mem_m) (x2 : Int) (o_x2 : ok_i x2), f_X0_take_234 G.2.2.2 x0 x1 n M x2 = some z → V_ (K_X0_take) X G (Fq_ X G (Qv_ G z)) M 234 [(0, .ref (G.1 + x0)), (1, .ref (G.1 + x1)), (2, iv_i x2)] [] := by
  intro n
  induction n with
  | zero => intro M x2 o_x2 h; exact absurd h (by simp [f_X0_take_234])
  | succ n ih =>
    intro M x2 o_x2 h
    unfold f_X0_take_234 at h
    refine V_iload_n (j := 2) C d_X0_take_234 rfl rfl ?_
    refine V_aload_n (j := 0) C d_X0_take_235 rfl rfl ?_
    refine V_getI C ck_0 fw_X0_94 d_X0_take_236 h (fun v1 o1 h => ?_)
    refine V_icmp_ge (tgt := 263) C d_X0_take_239 (by decide) o_x2 o1 h (fun h => ?_) (fun h => ?_)
    · skip
      refine V_aload_n (j := 0) C d_X0_take_242 rfl rfl ?_
      refine V_getR C ck_0 fw_X0_47 d_X0_take_243 h (fun v2 h => ?_)
      refine V_iload_n (j := 2) C d_X0_take_246 rfl rfl ?_
      refine V_aald (t := 4) C tc_4 d_X0_take_247 o_x2 h (fun v3 h => ?_)
      refine V_aload_n (j := 1) C d_X0_take_248 rfl rfl ?_
      refine V_getR C ck_0 fw_X0_47 d_X0_take_249 h (fun v4 h => ?_)
      refine V_iload_n (j := 2) C d_X0_take_252 rfl rfl ?_
      refine V_aald (t := 4) C tc_4 d_X0_take_253 o_x2 h (fun v5 h => ?_)
      refine V_callVwv (K' := K_X10_take) (a := v3) (ci := 10) (av := [.ref (G.1 + v5)]) (rest := []) yi_X10_take (by decide) rfl C (yk_X10_take) l1_X0_97 (by decide) d_X0_take_254 (fun v hv => ct_X10_take v3 v5 hv) rfl rfl (Nat.le_of_ble_eq_true rfl) h (fun M6 h => ?_)
      refine V_iinc (j := 2) (lv' := [(2, iv_i (wr_i (x2 + 1))), (0, .ref (G.1 + x0)), (1, .ref (G.1 + x1))]) C d_X0_take_257 rfl (by decide) rfl ?_
      refine V_goto (tgt := 234) C d_X0_take_260 (by decide) ?_
      refine V_lv [1, 2, 0] rfl (ih M6 (wr_i (x2 + 1)) (ok_wr _) h)
    · skip
      exact V_vret C hR d_X0_take_263 (Option.some.inj h)
set_option maxHeartbeats 4000000 in
set_option maxRecDepth 100000 in
theorem t_X0_take_195 {X : XT_x} {G : GT_g} {z : Mem_m} (C : Cx_ (K_X0_take) X G) (hR : Rx_ X G none) (x0 : Nat) (x1 : Nat) : ∀ (n : Nat) (M : Mem_m) (x2 : Int) (o_x2 : ok_i x2), f_X0_take_195 G.2.2.2 x0 x1 n M x2 = some z → V_ (K_X0_take) X G (Fq_ X G (Qv_ G z)) M 195 [(0, .ref (G.1 + x0)), (1, .ref (G.1 + x1)), (2, iv_i x2)] [] := by
  intro n
  induction n with
  | zero => intro M x2 o_x2 h; exact absurd h (by simp [f_X0_take_195])
  | succ n ih =>
    intro M x2 o_x2 h
    unfold f_X0_take_195 at h
    refine V_iload_n (j := 2) C d_X0_take_195 rfl rfl ?_
    refine V_aload_n (j := 0) C d_X0_take_196 rfl rfl ?_
    refine V_getI C ck_0 fw_X0_88 d_X0_take_197 h (fun v1 o1 h => ?_)
    refine V_icmp_ge (tgt := 224) C d_X0_take_200 (by decide) o_x2 o1 h (fun h => ?_) (fun h => ?_)
    · skip
      refine V_aload_n (j := 0) C d_X0_take_203 rfl rfl ?_
      refine V_getR C ck_0 fw_X0_41 d_X0_take_204 h (fun v2 h => ?_)
      refine V_iload_n (j := 2) C d_X0_take_207 rfl rfl ?_
      refine V_aald (t := 3) C tc_3 d_X0_take_208 o_x2 h (fun v3 h => ?_)
      refine V_aload_n (j := 1) C d_X0_take_209 rfl rfl ?_
      refine V_getR C ck_0 fw_X0_41 d_X0_take_210 h (fun v4 h => ?_)
      refine V_iload_n (j := 2) C d_X0_take_213 rfl rfl ?_
      refine V_aald (t := 3) C tc_3 d_X0_take_214 o_x2 h (fun v5 h => ?_)
      refine V_callVwv (K' := K_X8_take) (a := v3) (ci := 8) (av := [.ref (G.1 + v5)]) (rest := []) yi_X8_take (by decide) rfl C (yk_X8_take) l1_X0_91 (by decide) d_X0_take_215 (fun v hv => ct_X8_take v3 v5 hv) rfl rfl (Nat.le_of_ble_eq_true rfl) h (fun M6 h => ?_)
      refine V_iinc (j := 2) (lv' := [(2, iv_i (wr_i (x2 + 1))), (0, .ref (G.1 + x0)), (1, .ref (G.1 + x1))]) C d_X0_take_218 rfl (by decide) rfl ?_
      refine V_goto (tgt := 195) C d_X0_take_221 (by decide) ?_
      refine V_lv [1, 2, 0] rfl (ih M6 (wr_i (x2 + 1)) (ok_wr _) h)
    · skip
      refine V_aload_n (j := 0) C d_X0_take_224 rfl rfl ?_
      refine V_aload_n (j := 1) C d_X0_take_225 rfl rfl ?_
      refine V_getI C ck_0 fw_X0_94 d_X0_take_226 h (fun v7 o7 h => ?_)
      refine V_putI C ck_0 fw_X0_94 fp_0_14 d_X0_take_229 o7 h (fun M8 h => ?_)
      refine V_iconst C d_X0_take_232 ?_
      refine V_istore_n (lv' := [(2, iv_i 0), (0, .ref (G.1 + x0)), (1, .ref (G.1 + x1))]) C d_X0_take_233 rfl (by decide) rfl ?_
      refine V_lv [1, 2, 0] rfl (t_X0_take_234 C hR x0 x1 FU_ M8 0 (okc rfl) h)
set_option maxHeartbeats 4000000 in
set_option maxRecDepth 100000 in
theorem t_X0_take_156 {X : XT_x} {G : GT_g} {z : Mem_m} (C : Cx_ (K_X0_take) X G) (hR : Rx_ X G none) (x0 : Nat) (x1 : Nat) : ∀ (n : Nat) (M : Mem_m) (x2 : Int) (o_x2 : ok_i x2), f_X0_take_156 G.2.2.2 x0 x1 n M x2 = some z → V_ (K_X0_take) X G (Fq_ X G (Qv_ G z)) M 156 [(0, .ref (G.1 + x0)), (1, .ref (G.1 + x1)), (2, iv_i x2)] [] := by
  intro n
  induction n with
  | zero => intro M x2 o_x2 h; exact absurd h (by simp [f_X0_take_156])
  | succ n ih =>
    intro M x2 o_x2 h
    unfold f_X0_take_156 at h
    refine V_iload_n (j := 2) C d_X0_take_156 rfl rfl ?_
    refine V_aload_n (j := 0) C d_X0_take_157 rfl rfl ?_
    refine V_getI C ck_0 fw_X0_82 d_X0_take_158 h (fun v1 o1 h => ?_)
    refine V_icmp_ge (tgt := 185) C d_X0_take_161 (by decide) o_x2 o1 h (fun h => ?_) (fun h => ?_)
    · skip
      refine V_aload_n (j := 0) C d_X0_take_164 rfl rfl ?_
      refine V_getR C ck_0 fw_X0_35 d_X0_take_165 h (fun v2 h => ?_)
      refine V_iload_n (j := 2) C d_X0_take_168 rfl rfl ?_
      refine V_aald (t := 2) C tc_2 d_X0_take_169 o_x2 h (fun v3 h => ?_)
      refine V_aload_n (j := 1) C d_X0_take_170 rfl rfl ?_
      refine V_getR C ck_0 fw_X0_35 d_X0_take_171 h (fun v4 h => ?_)
      refine V_iload_n (j := 2) C d_X0_take_174 rfl rfl ?_
      refine V_aald (t := 2) C tc_2 d_X0_take_175 o_x2 h (fun v5 h => ?_)
      refine V_callVwv (K' := K_X7_take) (a := v3) (ci := 7) (av := [.ref (G.1 + v5)]) (rest := []) yi_X7_take (by decide) rfl C (yk_X7_take) l1_X0_85 (by decide) d_X0_take_176 (fun v hv => ct_X7_take v3 v5 hv) rfl rfl (Nat.le_of_ble_eq_true rfl) h (fun M6 h => ?_)
      refine V_iinc (j := 2) (lv' := [(2, iv_i (wr_i (x2 + 1))), (0, .ref (G.1 + x0)), (1, .ref (G.1 + x1))]) C d_X0_take_179 rfl (by decide) rfl ?_
      refine V_goto (tgt := 156) C d_X0_take_182 (by decide) ?_
      refine V_lv [1, 2, 0] rfl (ih M6 (wr_i (x2 + 1)) (ok_wr _) h)
    · skip
      refine V_aload_n (j := 0) C d_X0_take_185 rfl rfl ?_
      refine V_aload_n (j := 1) C d_X0_take_186 rfl rfl ?_
      refine V_getI C ck_0 fw_X0_88 d_X0_take_187 h (fun v7 o7 h => ?_)
      refine V_putI C ck_0 fw_X0_88 fp_0_11 d_X0_take_190 o7 h (fun M8 h => ?_)
      refine V_iconst C d_X0_take_193 ?_
      refine V_istore_n (lv' := [(2, iv_i 0), (0, .ref (G.1 + x0)), (1, .ref (G.1 + x1))]) C d_X0_take_194 rfl (by decide) rfl ?_
      refine V_lv [1, 2, 0] rfl (t_X0_take_195 C hR x0 x1 FU_ M8 0 (okc rfl) h)
set_option maxHeartbeats 4000000 in
set_option maxRecDepth 100000 in
theorem t_X0_take_117 {X : XT_x} {G : GT_g} {z : Mem_m} (C : Cx_ (K_X0_take) X G) (hR : Rx_ X G none) (x0 : Nat) (x1 : Nat) : ∀ (n : Nat) (M : Mem_m) (x2 : Int) (o_x2 : ok_i x2), f_X0_take_117 G.2.2.2 x0 x1 n M x2 = some z → V_ (K_X0_take) X G (Fq_ X G (Qv_ G z)) M 117 [(0, .ref (G.1 + x0)), (1, .ref (G.1 + x1)), (2, iv_i x2)] [] := by
  intro n
  induction n with
  | zero => intro M x2 o_x2 h; exact absurd h (by simp [f_X0_take_117])
  | succ n ih =>
    intro M x2 o_x2 h
    unfold f_X0_take_117 at h
    refine V_iload_n (j := 2) C d_X0_take_117 rfl rfl ?_
    refine V_aload_n (j := 0) C d_X0_take_118 rfl rfl ?_
    refine V_getI C ck_0 fw_X0_76 d_X0_take_119 h (fun v1 o1 h => ?_)
    refine V_icmp_ge (tgt := 146) C d_X0_take_122 (by decide) o_x2 o1 h (fun h => ?_) (fun h => ?_)
    · skip
      refine V_aload_n (j := 0) C d_X0_take_125 rfl rfl ?_
      refine V_getR C ck_0 fw_X0_29 d_X0_take_126 h (fun v2 h => ?_)
      refine V_iload_n (j := 2) C d_X0_take_129 rfl rfl ?_
      refine V_aald (t := 1) C tc_1 d_X0_take_130 o_x2 h (fun v3 h => ?_)
      refine V_aload_n (j := 1) C d_X0_take_131 rfl rfl ?_
      refine V_getR C ck_0 fw_X0_29 d_X0_take_132 h (fun v4 h => ?_)
      refine V_iload_n (j := 2) C d_X0_take_135 rfl rfl ?_
      refine V_aald (t := 1) C tc_1 d_X0_take_136 o_x2 h (fun v5 h => ?_)
      refine V_callVwv (K' := K_X5_take) (a := v3) (ci := 5) (av := [.ref (G.1 + v5)]) (rest := []) yi_X5_take (by decide) rfl C (yk_X5_take) l1_X0_79 (by decide) d_X0_take_137 (fun v hv => ct_X5_take v3 v5 hv) rfl rfl (Nat.le_of_ble_eq_true rfl) h (fun M6 h => ?_)
      refine V_iinc (j := 2) (lv' := [(2, iv_i (wr_i (x2 + 1))), (0, .ref (G.1 + x0)), (1, .ref (G.1 + x1))]) C d_X0_take_140 rfl (by decide) rfl ?_
      refine V_goto (tgt := 117) C d_X0_take_143 (by decide) ?_
      refine V_lv [1, 2, 0] rfl (ih M6 (wr_i (x2 + 1)) (ok_wr _) h)
    · skip
      refine V_aload_n (j := 0) C d_X0_take_146 rfl rfl ?_
      refine V_aload_n (j := 1) C d_X0_take_147 rfl rfl ?_
      refine V_getI C ck_0 fw_X0_82 d_X0_take_148 h (fun v7 o7 h => ?_)
      refine V_putI C ck_0 fw_X0_82 fp_0_9 d_X0_take_151 o7 h (fun M8 h => ?_)
      refine V_iconst C d_X0_take_154 ?_
      refine V_istore_n (lv' := [(2, iv_i 0), (0, .ref (G.1 + x0)), (1, .ref (G.1 + x1))]) C d_X0_take_155 rfl (by decide) rfl ?_
      refine V_lv [1, 2, 0] rfl (t_X0_take_156 C hR x0 x1 FU_ M8 0 (okc rfl) h)
set_option maxHeartbeats 4000000 in
set_option maxRecDepth 100000 in
theorem t_X0_take_70 {X : XT_x} {G : GT_g} {z : Mem_m} (C : Cx_ (K_X0_take) X G) (hR : Rx_ X G none) (x0 : Nat) (x1 : Nat) : ∀ (n : Nat) (M : Mem_m) (x2 : Int) (o_x2 : ok_i x2), f_X0_take_70 G.2.2.2 x0 x1 n M x2 = some z → V_ (K_X0_take) X G (Fq_ X G (Qv_ G z)) M 70 [(0, .ref (G.1 + x0)), (1, .ref (G.1 + x1)), (2, iv_i x2)] [] := by
  intro n
  induction n with
  | zero => intro M x2 o_x2 h; exact absurd h (by simp [f_X0_take_70])
  | succ n ih =>
    intro M x2 o_x2 h
    unfold f_X0_take_70 at h
    refine V_iload_n (j := 2) C d_X0_take_70 rfl rfl ?_
    refine V_aload_n (j := 0) C d_X0_take_71 rfl rfl ?_
    refine V_getI C ck_0 fw_X0_65 d_X0_take_72 h (fun v1 o1 h => ?_)
    refine V_icmp_ge (tgt := 99) C d_X0_take_75 (by decide) o_x2 o1 h (fun h => ?_) (fun h => ?_)
    · skip
      refine V_aload_n (j := 0) C d_X0_take_78 rfl rfl ?_
      refine V_getR C ck_0 fw_X0_23 d_X0_take_79 h (fun v2 h => ?_)
      refine V_iload_n (j := 2) C d_X0_take_82 rfl rfl ?_
      refine V_aald (t := 0) C tc_0 d_X0_take_83 o_x2 h (fun v3 h => ?_)
      refine V_aload_n (j := 1) C d_X0_take_84 rfl rfl ?_
      refine V_getR C ck_0 fw_X0_23 d_X0_take_85 h (fun v4 h => ?_)
      refine V_iload_n (j := 2) C d_X0_take_88 rfl rfl ?_
      refine V_aald (t := 0) C tc_0 d_X0_take_89 o_x2 h (fun v5 h => ?_)
      refine V_callVwv (K' := K_X1_take) (a := v3) (ci := 1) (av := [.ref (G.1 + v5)]) (rest := []) yi_X1_take (by decide) rfl C (yk_X1_take) l1_X0_69 (by decide) d_X0_take_90 (fun v hv => ct_X1_take v3 v5 hv) rfl rfl (Nat.le_of_ble_eq_true rfl) h (fun M6 h => ?_)
      refine V_iinc (j := 2) (lv' := [(2, iv_i (wr_i (x2 + 1))), (0, .ref (G.1 + x0)), (1, .ref (G.1 + x1))]) C d_X0_take_93 rfl (by decide) rfl ?_
      refine V_goto (tgt := 70) C d_X0_take_96 (by decide) ?_
      refine V_lv [1, 2, 0] rfl (ih M6 (wr_i (x2 + 1)) (ok_wr _) h)
    · skip
      refine V_aload_n (j := 0) C d_X0_take_99 rfl rfl ?_
      refine V_aload_n (j := 1) C d_X0_take_100 rfl rfl ?_
      refine V_getI C ck_0 fw_X0_73 d_X0_take_101 h (fun v7 o7 h => ?_)
      refine V_putI C ck_0 fw_X0_73 fp_0_7 d_X0_take_104 o7 h (fun M8 h => ?_)
      refine V_aload_n (j := 0) C d_X0_take_107 rfl rfl ?_
      refine V_aload_n (j := 1) C d_X0_take_108 rfl rfl ?_
      refine V_getI C ck_0 fw_X0_76 d_X0_take_109 h (fun v9 o9 h => ?_)
      refine V_putI C ck_0 fw_X0_76 fp_0_6 d_X0_take_112 o9 h (fun M10 h => ?_)
      refine V_iconst C d_X0_take_115 ?_
      refine V_istore_n (lv' := [(2, iv_i 0), (0, .ref (G.1 + x0)), (1, .ref (G.1 + x1))]) C d_X0_take_116 rfl (by decide) rfl ?_
      refine V_lv [1, 2, 0] rfl (t_X0_take_117 C hR x0 x1 FU_ M10 0 (okc rfl) h)
set_option maxHeartbeats 4000000 in
set_option maxRecDepth 100000 in
theorem t_X0_take {X : XT_x} {G : GT_g} {M : Mem_m} {z : Mem_m} (C : Cx_ (K_X0_take) X G) (hR : Rx_ X G none) (x0 : Nat) (x1 : Nat)  (h : f_X0_take G.2.2.2 M x0 x1 = some z) : V_ (K_X0_take) X G (Fq_ X G (Qv_ G z)) M 0 [(0, .ref (G.1 + x0)), (1, .ref (G.1 + x1))] [] := by
  unfold f_X0_take at h
  refine V_aload_n (j := 1) C d_X0_take_0 rfl rfl ?_
  refine V_getR C ck_0 fw_X0_9 d_X0_take_1 h (fun v1 h => ?_)
  refine V_iconst C d_X0_take_4 ?_
  refine V_aload_n (j := 0) C d_X0_take_5 rfl rfl ?_
  refine V_getR C ck_0 fw_X0_9 d_X0_take_6 h (fun v2 h => ?_)
  refine V_iconst C d_X0_take_9 ?_
  refine V_bipush (v := 10) C d_X0_take_10 rfl ?_
  refine V_copy C l1_X0_59 ac_ok (by decide) (Nat.le_of_ble_eq_true rfl) d_X0_take_12 (okc rfl) (okc rfl) (okc rfl) h (fun M3 h => ?_)
  refine V_aload_n (j := 1) C d_X0_take_15 rfl rfl ?_
  refine V_getR C ck_0 fw_X0_15 d_X0_take_16 h (fun v4 h => ?_)
  refine V_iconst C d_X0_take_19 ?_
  refine V_aload_n (j := 0) C d_X0_take_20 rfl rfl ?_
  refine V_getR C ck_0 fw_X0_15 d_X0_take_21 h (fun v5 h => ?_)
  refine V_iconst C d_X0_take_24 ?_
  refine V_bipush (v := 8) C d_X0_take_25 rfl ?_
  refine V_copy C l1_X0_59 ac_ok (by decide) (Nat.le_of_ble_eq_true rfl) d_X0_take_27 (okc rfl) (okc rfl) (okc rfl) h (fun M6 h => ?_)
  refine V_aload_n (j := 1) C d_X0_take_30 rfl rfl ?_
  refine V_getR C ck_0 fw_X0_18 d_X0_take_31 h (fun v7 h => ?_)
  refine V_iconst C d_X0_take_34 ?_
  refine V_aload_n (j := 0) C d_X0_take_35 rfl rfl ?_
  refine V_getR C ck_0 fw_X0_18 d_X0_take_36 h (fun v8 h => ?_)
  refine V_iconst C d_X0_take_39 ?_
  refine V_bipush (v := 8) C d_X0_take_40 rfl ?_
  refine V_copy C l1_X0_59 ac_ok (by decide) (Nat.le_of_ble_eq_true rfl) d_X0_take_42 (okc rfl) (okc rfl) (okc rfl) h (fun M9 h => ?_)
  refine V_aload_n (j := 1) C d_X0_take_45 rfl rfl ?_
  refine V_getR C ck_0 fw_X0_51 d_X0_take_46 h (fun v10 h => ?_)
  refine V_iconst C d_X0_take_49 ?_
  refine V_aload_n (j := 0) C d_X0_take_50 rfl rfl ?_
  refine V_getR C ck_0 fw_X0_51 d_X0_take_51 h (fun v11 h => ?_)
  refine V_iconst C d_X0_take_54 ?_
  refine V_bipush (v := 10) C d_X0_take_55 rfl ?_
  refine V_copy C l1_X0_59 ac_ok (by decide) (Nat.le_of_ble_eq_true rfl) d_X0_take_57 (okc rfl) (okc rfl) (okc rfl) h (fun M12 h => ?_)
  refine V_aload_n (j := 0) C d_X0_take_60 rfl rfl ?_
  refine V_aload_n (j := 1) C d_X0_take_61 rfl rfl ?_
  refine V_getI C ck_0 fw_X0_65 d_X0_take_62 h (fun v13 o13 h => ?_)
  refine V_putI C ck_0 fw_X0_65 fp_0_4 d_X0_take_65 o13 h (fun M14 h => ?_)
  refine V_iconst C d_X0_take_68 ?_
  refine V_istore_n (lv' := [(2, iv_i 0), (0, .ref (G.1 + x0)), (1, .ref (G.1 + x1))]) C d_X0_take_69 rfl (by decide) rfl ?_
  refine V_lv [1, 2, 0] rfl (t_X0_take_70 C hR x0 x1 FU_ M14 0 (okc rfl) h)
set_option maxHeartbeats 4000000 in
set_option maxRecDepth 100000 in
theorem ct_X0_take {l : Launch} {G : GT_g} {M : Mem_m} (x0 : Nat) (x1 : Nat)  {z : Mem_m} (h : f_X0_take G.2.2.2 M x0 x1 = some z) : MV_ l yX0_take K_X0_take none G M [.ref (G.1 + x0), .ref (G.1 + x1)] z :=
  met_of (by decide +kernel) rfl (Nat.le_of_ble_eq_true rfl) (fun X hl C hR => by subst hl; exact t_X0_take C hR x0 x1  h)
theorem d_X0_keptCards_0 : decode cX0_keptCards 0 = .ok (.iconst 0, 1) := by decide +kernel
theorem d_X0_keptCards_1 : decode cX0_keptCards 1 = .ok (.istore_n 1, 1) := by decide +kernel
theorem d_X0_keptCards_2 : decode cX0_keptCards 2 = .ok (.iconst 0, 1) := by decide +kernel
theorem d_X0_keptCards_3 : decode cX0_keptCards 3 = .ok (.istore_n 2, 1) := by decide +kernel
theorem d_X0_keptCards_4 : decode cX0_keptCards 4 = .ok (.iload_n 2, 1) := by decide +kernel
theorem d_X0_keptCards_5 : decode cX0_keptCards 5 = .ok (.aload_n 0, 1) := by decide +kernel
theorem d_X0_keptCards_6 : decode cX0_keptCards 6 = .ok (.getfield 65, 3) := by decide +kernel
theorem d_X0_keptCards_9 : decode cX0_keptCards 9 = .ok (.if_icmp .ge 24, 3) := by decide +kernel
theorem d_X0_keptCards_12 : decode cX0_keptCards 12 = .ok (.aload_n 0, 1) := by decide +kernel
theorem d_X0_keptCards_13 : decode cX0_keptCards 13 = .ok (.getfield 23, 3) := by decide +kernel
theorem d_X0_keptCards_16 : decode cX0_keptCards 16 = .ok (.iload_n 2, 1) := by decide +kernel
theorem d_X0_keptCards_17 : decode cX0_keptCards 17 = .ok (.aaload, 1) := by decide +kernel
theorem d_X0_keptCards_18 : decode cX0_keptCards 18 = .ok (.getfield 100, 3) := by decide +kernel
theorem d_X0_keptCards_21 : decode cX0_keptCards 21 = .ok (.ifCond .ne 6, 3) := by decide +kernel
theorem d_X0_keptCards_24 : decode cX0_keptCards 24 = .ok (.iinc 1 1, 3) := by decide +kernel
theorem d_X0_keptCards_27 : decode cX0_keptCards 27 = .ok (.iinc 2 1, 3) := by decide +kernel
theorem d_X0_keptCards_30 : decode cX0_keptCards 30 = .ok (.goto (-26), 3) := by decide +kernel
theorem d_X0_keptCards_33 : decode cX0_keptCards 33 = .ok (.iload_n 1, 1) := by decide +kernel
theorem d_X0_keptCards_34 : decode cX0_keptCards 34 = .ok (.ireturn, 1) := by decide +kernel
set_option maxHeartbeats 4000000 in
set_option maxRecDepth 100000 in
theorem t_X0_keptCards_4 {X : XT_x} {G : GT_g} {z : Int} (C : Cx_ (K_X0_keptCards) X G) (hR : Rx_ X G (some .int)) (M : Mem_m) (x0 : Nat) : ∀ (n : Nat) (x1 : Int) (x2 : Int) (o_x1 : ok_i x1) (o_x2 : ok_i x2), f_X0_keptCards_4 G.2.2.2 M x0 n x1 x2 = some z → V_ (K_X0_keptCards) X G (Fq_ X G (Qi_ G M z)) M 4 [(0, .ref (G.1 + x0)), (1, iv_i x1), (2, iv_i x2)] [] := by
  intro n
  induction n with
  | zero => intro x1 x2 o_x1 o_x2 h; exact absurd h (by simp [f_X0_keptCards_4])
  | succ n ih =>
    intro x1 x2 o_x1 o_x2 h
    unfold f_X0_keptCards_4 at h
    refine V_iload_n (j := 2) C d_X0_keptCards_4 rfl rfl ?_
    refine V_aload_n (j := 0) C d_X0_keptCards_5 rfl rfl ?_
    refine V_getI C ck_0 fw_X0_65 d_X0_keptCards_6 h (fun v1 o1 h => ?_)
    refine V_icmp_ge (tgt := 33) C d_X0_keptCards_9 (by decide) o_x2 o1 h (fun h => ?_) (fun h => ?_)
    · skip
      refine V_aload_n (j := 0) C d_X0_keptCards_12 rfl rfl ?_
      refine V_getR C ck_0 fw_X0_23 d_X0_keptCards_13 h (fun v2 h => ?_)
      refine V_iload_n (j := 2) C d_X0_keptCards_16 rfl rfl ?_
      refine V_aald (t := 0) C tc_0 d_X0_keptCards_17 o_x2 h (fun v3 h => ?_)
      refine V_getI C ck_1 fw_X0_100 d_X0_keptCards_18 h (fun v4 o4 h => ?_)
      refine V_if_ne (tgt := 27) C d_X0_keptCards_21 (by decide) o4 h (fun h => ?_) (fun h => ?_)
      · skip
        refine V_iinc (j := 1) (lv' := [(1, iv_i (wr_i (x1 + 1))), (0, .ref (G.1 + x0)), (2, iv_i x2)]) C d_X0_keptCards_24 rfl (by decide) rfl ?_
        refine V_iinc (j := 2) (lv' := [(2, iv_i (wr_i (x2 + 1))), (1, iv_i (wr_i (x1 + 1))), (0, .ref (G.1 + x0))]) C d_X0_keptCards_27 rfl (by decide) rfl ?_
        refine V_goto (tgt := 4) C d_X0_keptCards_30 (by decide) ?_
        refine V_lv [2, 1, 0] rfl (ih (wr_i (x1 + 1)) (wr_i (x2 + 1)) (ok_wr _) (ok_wr _) h)
      · skip
        refine V_iinc (j := 2) (lv' := [(2, iv_i (wr_i (x2 + 1))), (0, .ref (G.1 + x0)), (1, iv_i x1)]) C d_X0_keptCards_27 rfl (by decide) rfl ?_
        refine V_goto (tgt := 4) C d_X0_keptCards_30 (by decide) ?_
        refine V_lv [1, 2, 0] rfl (ih x1 (wr_i (x2 + 1)) o_x1 (ok_wr _) h)
    · skip
      refine V_iload_n (j := 1) C d_X0_keptCards_33 rfl rfl ?_
      exact V_iret_r C hR d_X0_keptCards_34 o_x1 h
set_option maxHeartbeats 4000000 in
set_option maxRecDepth 100000 in
theorem t_X0_keptCards {X : XT_x} {G : GT_g} {M : Mem_m} {z : Int} (C : Cx_ (K_X0_keptCards) X G) (hR : Rx_ X G (some .int)) (x0 : Nat)  (h : f_X0_keptCards G.2.2.2 M x0 = some z) : V_ (K_X0_keptCards) X G (Fq_ X G (Qi_ G M z)) M 0 [(0, .ref (G.1 + x0))] [] := by
  unfold f_X0_keptCards at h
  refine V_iconst C d_X0_keptCards_0 ?_
  refine V_istore_n (lv' := [(1, iv_i 0), (0, .ref (G.1 + x0))]) C d_X0_keptCards_1 rfl (by decide) rfl ?_
  refine V_iconst C d_X0_keptCards_2 ?_
  refine V_istore_n (lv' := [(2, iv_i 0), (1, iv_i 0), (0, .ref (G.1 + x0))]) C d_X0_keptCards_3 rfl (by decide) rfl ?_
  refine V_lv [2, 1, 0] rfl (t_X0_keptCards_4 C hR M x0 FU_ 0 0 (okc rfl) (okc rfl) h)
set_option maxHeartbeats 4000000 in
set_option maxRecDepth 100000 in
theorem ct_X0_keptCards {l : Launch} {G : GT_g} {M : Mem_m} (x0 : Nat)  {z : Int} (h : f_X0_keptCards G.2.2.2 M x0 = some z) : MI_ l yX0_keptCards K_X0_keptCards (some .int) G M [.ref (G.1 + x0)] M z :=
  met_of (by decide +kernel) rfl (Nat.le_of_ble_eq_true rfl) (fun X hl C hR => by subst hl; exact t_X0_keptCards C hR x0  h)
theorem d_X1_isCounted_0 : decode cX1_isCounted 0 = .ok (.aload_n 0, 1) := by decide +kernel
theorem d_X1_isCounted_1 : decode cX1_isCounted 1 = .ok (.getfield 18, 3) := by decide +kernel
theorem d_X1_isCounted_4 : decode cX1_isCounted 4 = .ok (.ifCond .eq 14, 3) := by decide +kernel
theorem d_X1_isCounted_7 : decode cX1_isCounted 7 = .ok (.aload_n 0, 1) := by decide +kernel
theorem d_X1_isCounted_8 : decode cX1_isCounted 8 = .ok (.getfield 22, 3) := by decide +kernel
theorem d_X1_isCounted_11 : decode cX1_isCounted 11 = .ok (.ifCond .ne 7, 3) := by decide +kernel
theorem d_X1_isCounted_14 : decode cX1_isCounted 14 = .ok (.iconst 1, 1) := by decide +kernel
theorem d_X1_isCounted_15 : decode cX1_isCounted 15 = .ok (.goto 4, 3) := by decide +kernel
theorem d_X1_isCounted_18 : decode cX1_isCounted 18 = .ok (.iconst 0, 1) := by decide +kernel
theorem d_X1_isCounted_19 : decode cX1_isCounted 19 = .ok (.ireturn, 1) := by decide +kernel
set_option maxHeartbeats 4000000 in
set_option maxRecDepth 100000 in
theorem t_X1_isCounted {X : XT_x} {G : GT_g} {M : Mem_m} {z : Int} (C : Cx_ (K_X1_isCounted) X G) (hR : Rx_ X G (some .boolean)) (x0 : Nat)  (h : f_X1_isCounted G.2.2.2 M x0 = some z) : V_ (K_X1_isCounted) X G (Fq_ X G (Qi_ G M z)) M 0 [(0, .ref (G.1 + x0))] [] := by
  unfold f_X1_isCounted at h
  refine V_aload_n (j := 0) C d_X1_isCounted_0 rfl rfl ?_
  refine V_getI C ck_1 fw_X1_18 d_X1_isCounted_1 h (fun v1 o1 h => ?_)
  refine V_if_eq (tgt := 18) C d_X1_isCounted_4 (by decide) o1 h (fun h => ?_) (fun h => ?_)
  · skip
    refine V_iconst C d_X1_isCounted_18 ?_
    exact V_zret_r C hR d_X1_isCounted_19 (Or.inl rfl) h
  · skip
    refine V_aload_n (j := 0) C d_X1_isCounted_7 rfl rfl ?_
    refine V_getI C ck_1 fw_X1_22 d_X1_isCounted_8 h (fun v2 o2 h => ?_)
    refine V_if_ne (tgt := 18) C d_X1_isCounted_11 (by decide) o2 h (fun h => ?_) (fun h => ?_)
    · skip
      refine V_iconst C d_X1_isCounted_14 ?_
      refine V_goto (tgt := 19) C d_X1_isCounted_15 (by decide) ?_
      exact V_zret_r C hR d_X1_isCounted_19 (Or.inr rfl) h
    · skip
      refine V_iconst C d_X1_isCounted_18 ?_
      exact V_zret_r C hR d_X1_isCounted_19 (Or.inl rfl) h
set_option maxHeartbeats 4000000 in
set_option maxRecDepth 100000 in
theorem ct_X1_isCounted {l : Launch} {G : GT_g} {M : Mem_m} (x0 : Nat)  {z : Int} (h : f_X1_isCounted G.2.2.2 M x0 = some z) : MI_ l yX1_isCounted K_X1_isCounted (some .boolean) G M [.ref (G.1 + x0)] M z :=
  met_of (by decide +kernel) rfl (Nat.le_of_ble_eq_true rfl) (fun X hl C hR => by subst hl; exact t_X1_isCounted C hR x0  h)
theorem d_X0_isToldPair_0 : decode cX0_isToldPair 0 = .ok (.aload_n 0, 1) := by decide +kernel
theorem d_X0_isToldPair_1 : decode cX0_isToldPair 1 = .ok (.invokevirtual 111, 3) := by decide +kernel
theorem d_X0_isToldPair_4 : decode cX0_isToldPair 4 = .ok (.ifCond .eq 39, 3) := by decide +kernel
theorem d_X0_isToldPair_7 : decode cX0_isToldPair 7 = .ok (.aload_n 1, 1) := by decide +kernel
theorem d_X0_isToldPair_8 : decode cX0_isToldPair 8 = .ok (.invokevirtual 111, 3) := by decide +kernel
theorem d_X0_isToldPair_11 : decode cX0_isToldPair 11 = .ok (.ifCond .eq 32, 3) := by decide +kernel
theorem d_X0_isToldPair_14 : decode cX0_isToldPair 14 = .ok (.aload_n 0, 1) := by decide +kernel
theorem d_X0_isToldPair_15 : decode cX0_isToldPair 15 = .ok (.getfield 115, 3) := by decide +kernel
theorem d_X0_isToldPair_18 : decode cX0_isToldPair 18 = .ok (.ifCond .eq 25, 3) := by decide +kernel
theorem d_X0_isToldPair_21 : decode cX0_isToldPair 21 = .ok (.aload_n 1, 1) := by decide +kernel
theorem d_X0_isToldPair_22 : decode cX0_isToldPair 22 = .ok (.getfield 115, 3) := by decide +kernel
theorem d_X0_isToldPair_25 : decode cX0_isToldPair 25 = .ok (.ifCond .eq 18, 3) := by decide +kernel
theorem d_X0_isToldPair_28 : decode cX0_isToldPair 28 = .ok (.aload_n 0, 1) := by decide +kernel
theorem d_X0_isToldPair_29 : decode cX0_isToldPair 29 = .ok (.getfield 115, 3) := by decide +kernel
theorem d_X0_isToldPair_32 : decode cX0_isToldPair 32 = .ok (.aload_n 1, 1) := by decide +kernel
theorem d_X0_isToldPair_33 : decode cX0_isToldPair 33 = .ok (.getfield 115, 3) := by decide +kernel
theorem d_X0_isToldPair_36 : decode cX0_isToldPair 36 = .ok (.if_icmp .eq 7, 3) := by decide +kernel
theorem d_X0_isToldPair_39 : decode cX0_isToldPair 39 = .ok (.iconst 1, 1) := by decide +kernel
theorem d_X0_isToldPair_40 : decode cX0_isToldPair 40 = .ok (.goto 4, 3) := by decide +kernel
theorem d_X0_isToldPair_43 : decode cX0_isToldPair 43 = .ok (.iconst 0, 1) := by decide +kernel
theorem d_X0_isToldPair_44 : decode cX0_isToldPair 44 = .ok (.ireturn, 1) := by decide +kernel
set_option maxHeartbeats 4000000 in
set_option maxRecDepth 100000 in
theorem t_X0_isToldPair {X : XT_x} {G : GT_g} {M : Mem_m} {z : Int} (C : Cx_ (K_X0_isToldPair) X G) (hR : Rx_ X G (some .boolean)) (x0 : Nat) (x1 : Nat)  (h : f_X0_isToldPair G.2.2.2 M x0 x1 = some z) : V_ (K_X0_isToldPair) X G (Fq_ X G (Qi_ G M z)) M 0 [(0, .ref (G.1 + x0)), (1, .ref (G.1 + x1))] [] := by
  unfold f_X0_isToldPair at h
  refine V_aload_n (j := 0) C d_X0_isToldPair_0 rfl rfl ?_
  refine V_callVri (K' := K_X1_isCounted) (a := x0) (ci := 1) (av := []) (rest := []) yi_X1_isCounted (by decide) rfl C (yk_X1_isCounted) l1_X0_111 (by decide) d_X0_isToldPair_1 (fun v hv => ct_X1_isCounted x0 hv) rfl rfl (Nat.le_of_ble_eq_true rfl) h (fun v1 o1 h => ?_)
  refine V_if_eq (tgt := 43) C d_X0_isToldPair_4 (by decide) o1 h (fun h => ?_) (fun h => ?_)
  · skip
    refine V_iconst C d_X0_isToldPair_43 ?_
    exact V_zret_r C hR d_X0_isToldPair_44 (Or.inl rfl) h
  · skip
    refine V_aload_n (j := 1) C d_X0_isToldPair_7 rfl rfl ?_
    refine V_callVri (K' := K_X1_isCounted) (a := x1) (ci := 1) (av := []) (rest := []) yi_X1_isCounted (by decide) rfl C (yk_X1_isCounted) l1_X0_111 (by decide) d_X0_isToldPair_8 (fun v hv => ct_X1_isCounted x1 hv) rfl rfl (Nat.le_of_ble_eq_true rfl) h (fun v2 o2 h => ?_)
    refine V_if_eq (tgt := 43) C d_X0_isToldPair_11 (by decide) o2 h (fun h => ?_) (fun h => ?_)
    · skip
      refine V_iconst C d_X0_isToldPair_43 ?_
      exact V_zret_r C hR d_X0_isToldPair_44 (Or.inl rfl) h
    · skip
      refine V_aload_n (j := 0) C d_X0_isToldPair_14 rfl rfl ?_
      refine V_getI C ck_1 fw_X0_115 d_X0_isToldPair_15 h (fun v3 o3 h => ?_)
      refine V_if_eq (tgt := 43) C d_X0_isToldPair_18 (by decide) o3 h (fun h => ?_) (fun h => ?_)
      · skip
        refine V_iconst C d_X0_isToldPair_43 ?_
        exact V_zret_r C hR d_X0_isToldPair_44 (Or.inl rfl) h
      · skip
        refine V_aload_n (j := 1) C d_X0_isToldPair_21 rfl rfl ?_
        refine V_getI C ck_1 fw_X0_115 d_X0_isToldPair_22 h (fun v4 o4 h => ?_)
        refine V_if_eq (tgt := 43) C d_X0_isToldPair_25 (by decide) o4 h (fun h => ?_) (fun h => ?_)
        · skip
          refine V_iconst C d_X0_isToldPair_43 ?_
          exact V_zret_r C hR d_X0_isToldPair_44 (Or.inl rfl) h
        · skip
          refine V_aload_n (j := 0) C d_X0_isToldPair_28 rfl rfl ?_
          refine V_getI C ck_1 fw_X0_115 d_X0_isToldPair_29 h (fun v5 o5 h => ?_)
          refine V_aload_n (j := 1) C d_X0_isToldPair_32 rfl rfl ?_
          refine V_getI C ck_1 fw_X0_115 d_X0_isToldPair_33 h (fun v6 o6 h => ?_)
          refine V_icmp_eq (tgt := 43) C d_X0_isToldPair_36 (by decide) o5 o6 h (fun h => ?_) (fun h => ?_)
          · skip
            refine V_iconst C d_X0_isToldPair_43 ?_
            exact V_zret_r C hR d_X0_isToldPair_44 (Or.inl rfl) h
          · skip
            refine V_iconst C d_X0_isToldPair_39 ?_
            refine V_goto (tgt := 44) C d_X0_isToldPair_40 (by decide) ?_
            exact V_zret_r C hR d_X0_isToldPair_44 (Or.inr rfl) h
set_option maxHeartbeats 4000000 in
set_option maxRecDepth 100000 in
theorem ct_X0_isToldPair {l : Launch} {G : GT_g} {M : Mem_m} (x0 : Nat) (x1 : Nat)  {z : Int} (h : f_X0_isToldPair G.2.2.2 M x0 x1 = some z) : MI_ l yX0_isToldPair K_X0_isToldPair (some .boolean) G M [.ref (G.1 + x0), .ref (G.1 + x1)] M z :=
  met_of (by decide +kernel) rfl (Nat.le_of_ble_eq_true rfl) (fun X hl C hR => by subst hl; exact t_X0_isToldPair C hR x0 x1  h)
theorem d_X1_differsOnlyBy_0 : decode cX1_differsOnlyBy 0 = .ok (.aload_n 0, 1) := by decide +kernel
theorem d_X1_differsOnlyBy_1 : decode cX1_differsOnlyBy 1 = .ok (.getfield 12, 3) := by decide +kernel
theorem d_X1_differsOnlyBy_4 : decode cX1_differsOnlyBy 4 = .ok (.getfield 35, 3) := by decide +kernel
theorem d_X1_differsOnlyBy_7 : decode cX1_differsOnlyBy 7 = .ok (.aload_n 1, 1) := by decide +kernel
theorem d_X1_differsOnlyBy_8 : decode cX1_differsOnlyBy 8 = .ok (.getfield 12, 3) := by decide +kernel
theorem d_X1_differsOnlyBy_11 : decode cX1_differsOnlyBy 11 = .ok (.getfield 35, 3) := by decide +kernel
theorem d_X1_differsOnlyBy_14 : decode cX1_differsOnlyBy 14 = .ok (.if_icmp .eq 5, 3) := by decide +kernel
theorem d_X1_differsOnlyBy_17 : decode cX1_differsOnlyBy 17 = .ok (.iconst 0, 1) := by decide +kernel
theorem d_X1_differsOnlyBy_18 : decode cX1_differsOnlyBy 18 = .ok (.ireturn, 1) := by decide +kernel
theorem d_X1_differsOnlyBy_19 : decode cX1_differsOnlyBy 19 = .ok (.iconst 0, 1) := by decide +kernel
theorem d_X1_differsOnlyBy_20 : decode cX1_differsOnlyBy 20 = .ok (.istore 4, 2) := by decide +kernel
theorem d_X1_differsOnlyBy_22 : decode cX1_differsOnlyBy 22 = .ok (.iconst 0, 1) := by decide +kernel
theorem d_X1_differsOnlyBy_23 : decode cX1_differsOnlyBy 23 = .ok (.istore 5, 2) := by decide +kernel
theorem d_X1_differsOnlyBy_25 : decode cX1_differsOnlyBy 25 = .ok (.iconst 0, 1) := by decide +kernel
theorem d_X1_differsOnlyBy_26 : decode cX1_differsOnlyBy 26 = .ok (.istore 6, 2) := by decide +kernel
theorem d_X1_differsOnlyBy_28 : decode cX1_differsOnlyBy 28 = .ok (.iload 6, 2) := by decide +kernel
theorem d_X1_differsOnlyBy_30 : decode cX1_differsOnlyBy 30 = .ok (.aload_n 0, 1) := by decide +kernel
theorem d_X1_differsOnlyBy_31 : decode cX1_differsOnlyBy 31 = .ok (.getfield 12, 3) := by decide +kernel
theorem d_X1_differsOnlyBy_34 : decode cX1_differsOnlyBy 34 = .ok (.getfield 35, 3) := by decide +kernel
theorem d_X1_differsOnlyBy_37 : decode cX1_differsOnlyBy 37 = .ok (.if_icmp .ge 62, 3) := by decide +kernel
theorem d_X1_differsOnlyBy_40 : decode cX1_differsOnlyBy 40 = .ok (.aload_n 0, 1) := by decide +kernel
theorem d_X1_differsOnlyBy_41 : decode cX1_differsOnlyBy 41 = .ok (.getfield 12, 3) := by decide +kernel
theorem d_X1_differsOnlyBy_44 : decode cX1_differsOnlyBy 44 = .ok (.getfield 38, 3) := by decide +kernel
theorem d_X1_differsOnlyBy_47 : decode cX1_differsOnlyBy 47 = .ok (.iload 6, 2) := by decide +kernel
theorem d_X1_differsOnlyBy_49 : decode cX1_differsOnlyBy 49 = .ok (.iaload, 1) := by decide +kernel
theorem d_X1_differsOnlyBy_50 : decode cX1_differsOnlyBy 50 = .ok (.istore 7, 2) := by decide +kernel
theorem d_X1_differsOnlyBy_52 : decode cX1_differsOnlyBy 52 = .ok (.aload_n 1, 1) := by decide +kernel
theorem d_X1_differsOnlyBy_53 : decode cX1_differsOnlyBy 53 = .ok (.getfield 12, 3) := by decide +kernel
theorem d_X1_differsOnlyBy_56 : decode cX1_differsOnlyBy 56 = .ok (.getfield 38, 3) := by decide +kernel
theorem d_X1_differsOnlyBy_59 : decode cX1_differsOnlyBy 59 = .ok (.iload 6, 2) := by decide +kernel
theorem d_X1_differsOnlyBy_61 : decode cX1_differsOnlyBy 61 = .ok (.iaload, 1) := by decide +kernel
theorem d_X1_differsOnlyBy_62 : decode cX1_differsOnlyBy 62 = .ok (.istore 8, 2) := by decide +kernel
theorem d_X1_differsOnlyBy_64 : decode cX1_differsOnlyBy 64 = .ok (.iload 7, 2) := by decide +kernel
theorem d_X1_differsOnlyBy_66 : decode cX1_differsOnlyBy 66 = .ok (.iload 8, 2) := by decide +kernel
theorem d_X1_differsOnlyBy_68 : decode cX1_differsOnlyBy 68 = .ok (.if_icmp .eq 25, 3) := by decide +kernel
theorem d_X1_differsOnlyBy_71 : decode cX1_differsOnlyBy 71 = .ok (.iinc 4 1, 3) := by decide +kernel
theorem d_X1_differsOnlyBy_74 : decode cX1_differsOnlyBy 74 = .ok (.iload 7, 2) := by decide +kernel
theorem d_X1_differsOnlyBy_76 : decode cX1_differsOnlyBy 76 = .ok (.iload_n 2, 1) := by decide +kernel
theorem d_X1_differsOnlyBy_77 : decode cX1_differsOnlyBy 77 = .ok (.if_icmp .ne 13, 3) := by decide +kernel
theorem d_X1_differsOnlyBy_80 : decode cX1_differsOnlyBy 80 = .ok (.iload 8, 2) := by decide +kernel
theorem d_X1_differsOnlyBy_82 : decode cX1_differsOnlyBy 82 = .ok (.iload_n 3, 1) := by decide +kernel
theorem d_X1_differsOnlyBy_83 : decode cX1_differsOnlyBy 83 = .ok (.if_icmp .ne 7, 3) := by decide +kernel
theorem d_X1_differsOnlyBy_86 : decode cX1_differsOnlyBy 86 = .ok (.iconst 1, 1) := by decide +kernel
theorem d_X1_differsOnlyBy_87 : decode cX1_differsOnlyBy 87 = .ok (.goto 4, 3) := by decide +kernel
theorem d_X1_differsOnlyBy_90 : decode cX1_differsOnlyBy 90 = .ok (.iconst 0, 1) := by decide +kernel
theorem d_X1_differsOnlyBy_91 : decode cX1_differsOnlyBy 91 = .ok (.istore 5, 2) := by decide +kernel
theorem d_X1_differsOnlyBy_93 : decode cX1_differsOnlyBy 93 = .ok (.iinc 6 1, 3) := by decide +kernel
theorem d_X1_differsOnlyBy_96 : decode cX1_differsOnlyBy 96 = .ok (.goto (-68), 3) := by decide +kernel
theorem d_X1_differsOnlyBy_99 : decode cX1_differsOnlyBy 99 = .ok (.iload 4, 2) := by decide +kernel
theorem d_X1_differsOnlyBy_101 : decode cX1_differsOnlyBy 101 = .ok (.iconst 1, 1) := by decide +kernel
theorem d_X1_differsOnlyBy_102 : decode cX1_differsOnlyBy 102 = .ok (.if_icmp .ne 12, 3) := by decide +kernel
theorem d_X1_differsOnlyBy_105 : decode cX1_differsOnlyBy 105 = .ok (.iload 5, 2) := by decide +kernel
theorem d_X1_differsOnlyBy_107 : decode cX1_differsOnlyBy 107 = .ok (.ifCond .eq 7, 3) := by decide +kernel
theorem d_X1_differsOnlyBy_110 : decode cX1_differsOnlyBy 110 = .ok (.iconst 1, 1) := by decide +kernel
theorem d_X1_differsOnlyBy_111 : decode cX1_differsOnlyBy 111 = .ok (.goto 4, 3) := by decide +kernel
theorem d_X1_differsOnlyBy_114 : decode cX1_differsOnlyBy 114 = .ok (.iconst 0, 1) := by decide +kernel
theorem d_X1_differsOnlyBy_115 : decode cX1_differsOnlyBy 115 = .ok (.ireturn, 1) := by decide +kernel
set_option maxHeartbeats 4000000 in
set_option maxRecDepth 100000 in
theorem t_X1_differsOnlyBy_28 {X : XT_x} {G : GT_g} {z : Int} (C : Cx_ (K_X1_differsOnlyBy) X G) (hR : Rx_ X G (some .boolean)) (M : Mem_m) (x0 : Nat) (x1 : Nat) (x2 : Int) (x3 : Int) (o_x2 : ok_i x2) (o_x3 : ok_i x3) : ∀ (n : Nat) (x4 : Int) (x5 : Int) (x6 : Int) (o_x4 : ok_i x4) (o_x5 : ok_i x5) (o_x6 : ok_i x6), f_X1_differsOnlyBy_28 G.2.2.2 M x0 x1 x2 x3 n x4 x5 x6 = some z → V_ (K_X1_differsOnlyBy) X G (Fq_ X G (Qi_ G M z)) M 28 [(0, .ref (G.1 + x0)), (1, .ref (G.1 + x1)), (2, iv_i x2), (3, iv_i x3), (4, iv_i x4), (5, iv_i x5), (6, iv_i x6)] [] := by
  intro n
  induction n with
  | zero => intro x4 x5 x6 o_x4 o_x5 o_x6 h; exact absurd h (by simp [f_X1_differsOnlyBy_28])
  | succ n ih =>
    intro x4 x5 x6 o_x4 o_x5 o_x6 h
    unfold f_X1_differsOnlyBy_28 at h
    refine V_iload (j := 6) C d_X1_differsOnlyBy_28 rfl ?_
    refine V_aload_n (j := 0) C d_X1_differsOnlyBy_30 rfl rfl ?_
    refine V_getR C ck_1 fw_X1_12 d_X1_differsOnlyBy_31 h (fun v1 h => ?_)
    refine V_getI C ck_10 fw_X1_35 d_X1_differsOnlyBy_34 h (fun v2 o2 h => ?_)
    refine V_icmp_ge (tgt := 99) C d_X1_differsOnlyBy_37 (by decide) o_x6 o2 h (fun h => ?_) (fun h => ?_)
    · skip
      refine V_aload_n (j := 0) C d_X1_differsOnlyBy_40 rfl rfl ?_
      refine V_getR C ck_1 fw_X1_12 d_X1_differsOnlyBy_41 h (fun v3 h => ?_)
      refine V_getR C ck_10 fw_X1_38 d_X1_differsOnlyBy_44 h (fun v4 h => ?_)
      refine V_iload (j := 6) C d_X1_differsOnlyBy_47 rfl ?_
      refine V_iald C d_X1_differsOnlyBy_49 o_x6 h (fun v5 o5 h => ?_)
      refine V_istore (lv' := [(7, iv_i v5), (0, .ref (G.1 + x0)), (1, .ref (G.1 + x1)), (2, iv_i x2), (3, iv_i x3), (4, iv_i x4), (5, iv_i x5), (6, iv_i x6)]) C d_X1_differsOnlyBy_50 (by decide) rfl ?_
      refine V_aload_n (j := 2) C d_X1_differsOnlyBy_52 rfl rfl ?_
      refine V_getR C ck_1 fw_X1_12 d_X1_differsOnlyBy_53 h (fun v6 h => ?_)
      refine V_getR C ck_10 fw_X1_38 d_X1_differsOnlyBy_56 h (fun v7 h => ?_)
      refine V_iload (j := 7) C d_X1_differsOnlyBy_59 rfl ?_
      refine V_iald C d_X1_differsOnlyBy_61 o_x6 h (fun v8 o8 h => ?_)
      refine V_istore (lv' := [(8, iv_i v8), (7, iv_i v5), (0, .ref (G.1 + x0)), (1, .ref (G.1 + x1)), (2, iv_i x2), (3, iv_i x3), (4, iv_i x4), (5, iv_i x5), (6, iv_i x6)]) C d_X1_differsOnlyBy_62 (by decide) rfl ?_
      refine V_iload (j := 1) C d_X1_differsOnlyBy_64 rfl ?_
      refine V_iload (j := 0) C d_X1_differsOnlyBy_66 rfl ?_
      refine V_icmp_eq (tgt := 93) C d_X1_differsOnlyBy_68 (by decide) o5 o8 h (fun h => ?_) (fun h => ?_)
      · skip
        refine V_iinc (j := 8) (lv' := [(6, iv_i (wr_i (x6 + 1))), (8, iv_i v8), (7, iv_i v5), (0, .ref (G.1 + x0)), (1, .ref (G.1 + x1)), (2, iv_i x2), (3, iv_i x3), (4, iv_i x4), (5, iv_i x5)]) C d_X1_differsOnlyBy_93 rfl (by decide) rfl ?_
        refine V_goto (tgt := 28) C d_X1_differsOnlyBy_96 (by decide) ?_
        refine V_lv [3, 4, 5, 6, 7, 8, 0] rfl (ih x4 x5 (wr_i (x6 + 1)) o_x4 o_x5 (ok_wr _) h)
      · skip
        refine V_iinc (j := 6) (lv' := [(4, iv_i (wr_i (x4 + 1))), (8, iv_i v8), (7, iv_i v5), (0, .ref (G.1 + x0)), (1, .ref (G.1 + x1)), (2, iv_i x2), (3, iv_i x3), (5, iv_i x5), (6, iv_i x6)]) C d_X1_differsOnlyBy_71 rfl (by decide) rfl ?_
        refine V_iload (j := 2) C d_X1_differsOnlyBy_74 rfl ?_
        refine V_iload_n (j := 5) C d_X1_differsOnlyBy_76 rfl rfl ?_
        refine V_icmp_ne (tgt := 90) C d_X1_differsOnlyBy_77 (by decide) o5 o_x2 h (fun h => ?_) (fun h => ?_)
        · skip
          refine V_iload (j := 1) C d_X1_differsOnlyBy_80 rfl ?_
          refine V_iload_n (j := 6) C d_X1_differsOnlyBy_82 rfl rfl ?_
          refine V_icmp_ne (tgt := 90) C d_X1_differsOnlyBy_83 (by decide) o8 o_x3 h (fun h => ?_) (fun h => ?_)
          · skip
            refine V_iconst C d_X1_differsOnlyBy_86 ?_
            refine V_goto (tgt := 91) C d_X1_differsOnlyBy_87 (by decide) ?_
            refine V_istore (lv' := [(5, iv_i 1), (4, iv_i (wr_i (x4 + 1))), (8, iv_i v8), (7, iv_i v5), (0, .ref (G.1 + x0)), (1, .ref (G.1 + x1)), (2, iv_i x2), (3, iv_i x3), (6, iv_i x6)]) C d_X1_differsOnlyBy_91 (by decide) rfl ?_
            refine V_iinc (j := 8) (lv' := [(6, iv_i (wr_i (x6 + 1))), (5, iv_i 1), (4, iv_i (wr_i (x4 + 1))), (8, iv_i v8), (7, iv_i v5), (0, .ref (G.1 + x0)), (1, .ref (G.1 + x1)), (2, iv_i x2), (3, iv_i x3)]) C d_X1_differsOnlyBy_93 rfl (by decide) rfl ?_
            refine V_goto (tgt := 28) C d_X1_differsOnlyBy_96 (by decide) ?_
            refine V_lv [5, 6, 7, 8, 2, 1, 0] rfl (ih (wr_i (x4 + 1)) 1 (wr_i (x6 + 1)) (ok_wr _) (okc rfl) (ok_wr _) h)
          · skip
            refine V_iconst C d_X1_differsOnlyBy_90 ?_
            refine V_istore (lv' := [(5, iv_i 0), (4, iv_i (wr_i (x4 + 1))), (8, iv_i v8), (7, iv_i v5), (0, .ref (G.1 + x0)), (1, .ref (G.1 + x1)), (2, iv_i x2), (3, iv_i x3), (6, iv_i x6)]) C d_X1_differsOnlyBy_91 (by decide) rfl ?_
            refine V_iinc (j := 8) (lv' := [(6, iv_i (wr_i (x6 + 1))), (5, iv_i 0), (4, iv_i (wr_i (x4 + 1))), (8, iv_i v8), (7, iv_i v5), (0, .ref (G.1 + x0)), (1, .ref (G.1 + x1)), (2, iv_i x2), (3, iv_i x3)]) C d_X1_differsOnlyBy_93 rfl (by decide) rfl ?_
            refine V_goto (tgt := 28) C d_X1_differsOnlyBy_96 (by decide) ?_
            refine V_lv [5, 6, 7, 8, 2, 1, 0] rfl (ih (wr_i (x4 + 1)) 0 (wr_i (x6 + 1)) (ok_wr _) (okc rfl) (ok_wr _) h)
        · skip
          refine V_iconst C d_X1_differsOnlyBy_90 ?_
          refine V_istore (lv' := [(5, iv_i 0), (4, iv_i (wr_i (x4 + 1))), (8, iv_i v8), (7, iv_i v5), (0, .ref (G.1 + x0)), (1, .ref (G.1 + x1)), (2, iv_i x2), (3, iv_i x3), (6, iv_i x6)]) C d_X1_differsOnlyBy_91 (by decide) rfl ?_
          refine V_iinc (j := 8) (lv' := [(6, iv_i (wr_i (x6 + 1))), (5, iv_i 0), (4, iv_i (wr_i (x4 + 1))), (8, iv_i v8), (7, iv_i v5), (0, .ref (G.1 + x0)), (1, .ref (G.1 + x1)), (2, iv_i x2), (3, iv_i x3)]) C d_X1_differsOnlyBy_93 rfl (by decide) rfl ?_
          refine V_goto (tgt := 28) C d_X1_differsOnlyBy_96 (by decide) ?_
          refine V_lv [5, 6, 7, 8, 2, 1, 0] rfl (ih (wr_i (x4 + 1)) 0 (wr_i (x6 + 1)) (ok_wr _) (okc rfl) (ok_wr _) h)
    · skip
      refine V_iload (j := 4) C d_X1_differsOnlyBy_99 rfl ?_
      refine V_iconst C d_X1_differsOnlyBy_101 ?_
      refine V_icmp_ne (tgt := 114) C d_X1_differsOnlyBy_102 (by decide) o_x4 (okc rfl) h (fun h => ?_) (fun h => ?_)
      · skip
        refine V_iload (j := 5) C d_X1_differsOnlyBy_105 rfl ?_
        refine V_if_eq (tgt := 114) C d_X1_differsOnlyBy_107 (by decide) o_x5 h (fun h => ?_) (fun h => ?_)
        · skip
          refine V_iconst C d_X1_differsOnlyBy_114 ?_
          exact V_zret_r C hR d_X1_differsOnlyBy_115 (Or.inl rfl) h
        · skip
          refine V_iconst C d_X1_differsOnlyBy_110 ?_
          refine V_goto (tgt := 115) C d_X1_differsOnlyBy_111 (by decide) ?_
          exact V_zret_r C hR d_X1_differsOnlyBy_115 (Or.inr rfl) h
      · skip
        refine V_iconst C d_X1_differsOnlyBy_114 ?_
        exact V_zret_r C hR d_X1_differsOnlyBy_115 (Or.inl rfl) h
set_option maxHeartbeats 4000000 in
set_option maxRecDepth 100000 in
theorem t_X1_differsOnlyBy {X : XT_x} {G : GT_g} {M : Mem_m} {z : Int} (C : Cx_ (K_X1_differsOnlyBy) X G) (hR : Rx_ X G (some .boolean)) (x0 : Nat) (x1 : Nat) (x2 : Int) (x3 : Int) (o_x2 : ok_i x2) (o_x3 : ok_i x3) (h : f_X1_differsOnlyBy G.2.2.2 M x0 x1 x2 x3 = some z) : V_ (K_X1_differsOnlyBy) X G (Fq_ X G (Qi_ G M z)) M 0 [(0, .ref (G.1 + x0)), (1, .ref (G.1 + x1)), (2, iv_i x2), (3, iv_i x3)] [] := by
  unfold f_X1_differsOnlyBy at h
  refine V_aload_n (j := 0) C d_X1_differsOnlyBy_0 rfl rfl ?_
  refine V_getR C ck_1 fw_X1_12 d_X1_differsOnlyBy_1 h (fun v1 h => ?_)
  refine V_getI C ck_10 fw_X1_35 d_X1_differsOnlyBy_4 h (fun v2 o2 h => ?_)
  refine V_aload_n (j := 1) C d_X1_differsOnlyBy_7 rfl rfl ?_
  refine V_getR C ck_1 fw_X1_12 d_X1_differsOnlyBy_8 h (fun v3 h => ?_)
  refine V_getI C ck_10 fw_X1_35 d_X1_differsOnlyBy_11 h (fun v4 o4 h => ?_)
  refine V_icmp_eq (tgt := 19) C d_X1_differsOnlyBy_14 (by decide) o2 o4 h (fun h => ?_) (fun h => ?_)
  · skip
    refine V_iconst C d_X1_differsOnlyBy_19 ?_
    refine V_istore (lv' := [(4, iv_i 0), (0, .ref (G.1 + x0)), (1, .ref (G.1 + x1)), (2, iv_i x2), (3, iv_i x3)]) C d_X1_differsOnlyBy_20 (by decide) rfl ?_
    refine V_iconst C d_X1_differsOnlyBy_22 ?_
    refine V_istore (lv' := [(5, iv_i 0), (4, iv_i 0), (0, .ref (G.1 + x0)), (1, .ref (G.1 + x1)), (2, iv_i x2), (3, iv_i x3)]) C d_X1_differsOnlyBy_23 (by decide) rfl ?_
    refine V_iconst C d_X1_differsOnlyBy_25 ?_
    refine V_istore (lv' := [(6, iv_i 0), (5, iv_i 0), (4, iv_i 0), (0, .ref (G.1 + x0)), (1, .ref (G.1 + x1)), (2, iv_i x2), (3, iv_i x3)]) C d_X1_differsOnlyBy_26 (by decide) rfl ?_
    refine V_lv [3, 4, 5, 6, 2, 1, 0] rfl (t_X1_differsOnlyBy_28 C hR M x0 x1 x2 x3 o_x2 o_x3 FU_ 0 0 0 (okc rfl) (okc rfl) (okc rfl) h)
  · skip
    refine V_iconst C d_X1_differsOnlyBy_17 ?_
    exact V_zret_r C hR d_X1_differsOnlyBy_18 (Or.inl rfl) h
set_option maxHeartbeats 4000000 in
set_option maxRecDepth 100000 in
theorem ct_X1_differsOnlyBy {l : Launch} {G : GT_g} {M : Mem_m} (x0 : Nat) (x1 : Nat) (x2 : Int) (x3 : Int) (o_x2 : ok_i x2) (o_x3 : ok_i x3) {z : Int} (h : f_X1_differsOnlyBy G.2.2.2 M x0 x1 x2 x3 = some z) : MI_ l yX1_differsOnlyBy K_X1_differsOnlyBy (some .boolean) G M [.ref (G.1 + x0), .ref (G.1 + x1), iv_i x2, iv_i x3] M z :=
  met_of (by decide +kernel) rfl (Nat.le_of_ble_eq_true rfl) (fun X hl C hR => by subst hl; exact t_X1_differsOnlyBy C hR x0 x1 x2 x3 o_x2 o_x3 h)
theorem d_X0_areTwo_0 : decode cX0_areTwo 0 = .ok (.iconst 0, 1) := by decide +kernel
theorem d_X0_areTwo_1 : decode cX0_areTwo 1 = .ok (.istore_n 3, 1) := by decide +kernel
theorem d_X0_areTwo_2 : decode cX0_areTwo 2 = .ok (.iload_n 3, 1) := by decide +kernel
theorem d_X0_areTwo_3 : decode cX0_areTwo 3 = .ok (.aload_n 0, 1) := by decide +kernel
theorem d_X0_areTwo_4 : decode cX0_areTwo 4 = .ok (.getfield 65, 3) := by decide +kernel
theorem d_X0_areTwo_7 : decode cX0_areTwo 7 = .ok (.if_icmp .ge 69, 3) := by decide +kernel
theorem d_X0_areTwo_10 : decode cX0_areTwo 10 = .ok (.iconst 0, 1) := by decide +kernel
theorem d_X0_areTwo_11 : decode cX0_areTwo 11 = .ok (.istore 4, 2) := by decide +kernel
theorem d_X0_areTwo_13 : decode cX0_areTwo 13 = .ok (.iload 4, 2) := by decide +kernel
theorem d_X0_areTwo_15 : decode cX0_areTwo 15 = .ok (.aload_n 0, 1) := by decide +kernel
theorem d_X0_areTwo_16 : decode cX0_areTwo 16 = .ok (.getfield 65, 3) := by decide +kernel
theorem d_X0_areTwo_19 : decode cX0_areTwo 19 = .ok (.if_icmp .ge 51, 3) := by decide +kernel
theorem d_X0_areTwo_22 : decode cX0_areTwo 22 = .ok (.aload_n 0, 1) := by decide +kernel
theorem d_X0_areTwo_23 : decode cX0_areTwo 23 = .ok (.getfield 23, 3) := by decide +kernel
theorem d_X0_areTwo_26 : decode cX0_areTwo 26 = .ok (.iload_n 3, 1) := by decide +kernel
theorem d_X0_areTwo_27 : decode cX0_areTwo 27 = .ok (.aaload, 1) := by decide +kernel
theorem d_X0_areTwo_28 : decode cX0_areTwo 28 = .ok (.aload_n 0, 1) := by decide +kernel
theorem d_X0_areTwo_29 : decode cX0_areTwo 29 = .ok (.getfield 23, 3) := by decide +kernel
theorem d_X0_areTwo_32 : decode cX0_areTwo 32 = .ok (.iload 4, 2) := by decide +kernel
theorem d_X0_areTwo_34 : decode cX0_areTwo 34 = .ok (.aaload, 1) := by decide +kernel
theorem d_X0_areTwo_35 : decode cX0_areTwo 35 = .ok (.invokestatic 103, 3) := by decide +kernel
theorem d_X0_areTwo_38 : decode cX0_areTwo 38 = .ok (.ifCond .eq 26, 3) := by decide +kernel
theorem d_X0_areTwo_41 : decode cX0_areTwo 41 = .ok (.aload_n 0, 1) := by decide +kernel
theorem d_X0_areTwo_42 : decode cX0_areTwo 42 = .ok (.getfield 23, 3) := by decide +kernel
theorem d_X0_areTwo_45 : decode cX0_areTwo 45 = .ok (.iload_n 3, 1) := by decide +kernel
theorem d_X0_areTwo_46 : decode cX0_areTwo 46 = .ok (.aaload, 1) := by decide +kernel
theorem d_X0_areTwo_47 : decode cX0_areTwo 47 = .ok (.aload_n 0, 1) := by decide +kernel
theorem d_X0_areTwo_48 : decode cX0_areTwo 48 = .ok (.getfield 23, 3) := by decide +kernel
theorem d_X0_areTwo_51 : decode cX0_areTwo 51 = .ok (.iload 4, 2) := by decide +kernel
theorem d_X0_areTwo_53 : decode cX0_areTwo 53 = .ok (.aaload, 1) := by decide +kernel
theorem d_X0_areTwo_54 : decode cX0_areTwo 54 = .ok (.iload_n 1, 1) := by decide +kernel
theorem d_X0_areTwo_55 : decode cX0_areTwo 55 = .ok (.iload_n 2, 1) := by decide +kernel
theorem d_X0_areTwo_56 : decode cX0_areTwo 56 = .ok (.invokevirtual 107, 3) := by decide +kernel
theorem d_X0_areTwo_59 : decode cX0_areTwo 59 = .ok (.ifCond .eq 5, 3) := by decide +kernel
theorem d_X0_areTwo_62 : decode cX0_areTwo 62 = .ok (.iconst 1, 1) := by decide +kernel
theorem d_X0_areTwo_63 : decode cX0_areTwo 63 = .ok (.ireturn, 1) := by decide +kernel
theorem d_X0_areTwo_64 : decode cX0_areTwo 64 = .ok (.iinc 4 1, 3) := by decide +kernel
theorem d_X0_areTwo_67 : decode cX0_areTwo 67 = .ok (.goto (-54), 3) := by decide +kernel
theorem d_X0_areTwo_70 : decode cX0_areTwo 70 = .ok (.iinc 3 1, 3) := by decide +kernel
theorem d_X0_areTwo_73 : decode cX0_areTwo 73 = .ok (.goto (-71), 3) := by decide +kernel
theorem d_X0_areTwo_76 : decode cX0_areTwo 76 = .ok (.iconst 0, 1) := by decide +kernel
theorem d_X0_areTwo_77 : decode cX0_areTwo 77 = .ok (.ireturn, 1) := by decide +kernel
set_option maxHeartbeats 4000000 in
set_option maxRecDepth 100000 in
theorem t_X0_areTwo_13 {X : XT_x} {G : GT_g} {z : Int} (C : Cx_ (K_X0_areTwo) X G) (hR : Rx_ X G (some .boolean)) (M : Mem_m) (x0 : Nat) (x1 : Int) (x2 : Int) (x3 : Int) (o_x1 : ok_i x1) (o_x2 : ok_i x2) (o_x3 : ok_i x3) (k_2 : Int → Option Int) (hk_2 : ∀ (x3 : Int) (o_x3 : ok_i x3), k_2 x3 = some z → V_ (K_X0_areTwo) X G (Fq_ X G (Qi_ G M z)) M 2 [(0, .ref (G.1 + x0)), (1, iv_i x1), (2, iv_i x2), (3, iv_i x3)] []) : ∀ (n : Nat) (x4 : Int) (o_x4 : ok_i x4), f_X0_areTwo_13 G.2.2.2 k_2 M x0 x1 x2 x3 n x4 = some z → V_ (K_X0_areTwo) X G (Fq_ X G (Qi_ G M z)) M 13 [(0, .ref (G.1 + x0)), (1, iv_i x1), (2, iv_i x2), (3, iv_i x3), (4, iv_i x4)] [] := by
  intro n
  induction n with
  | zero => intro x4 o_x4 h; exact absurd h (by simp [f_X0_areTwo_13])
  | succ n ih =>
    intro x4 o_x4 h
    unfold f_X0_areTwo_13 at h
    refine V_iload (j := 4) C d_X0_areTwo_13 rfl ?_
    refine V_aload_n (j := 0) C d_X0_areTwo_15 rfl rfl ?_
    refine V_getI C ck_0 fw_X0_65 d_X0_areTwo_16 h (fun v1 o1 h => ?_)
    refine V_icmp_ge (tgt := 70) C d_X0_areTwo_19 (by decide) o_x4 o1 h (fun h => ?_) (fun h => ?_)
    · skip
      refine V_aload_n (j := 0) C d_X0_areTwo_22 rfl rfl ?_
      refine V_getR C ck_0 fw_X0_23 d_X0_areTwo_23 h (fun v2 h => ?_)
      refine V_iload_n (j := 3) C d_X0_areTwo_26 rfl rfl ?_
      refine V_aald (t := 0) C tc_0 d_X0_areTwo_27 o_x3 h (fun v3 h => ?_)
      refine V_aload_n (j := 0) C d_X0_areTwo_28 rfl rfl ?_
      refine V_getR C ck_0 fw_X0_23 d_X0_areTwo_29 h (fun v4 h => ?_)
      refine V_iload (j := 4) C d_X0_areTwo_32 rfl ?_
      refine V_aald (t := 0) C tc_0 d_X0_areTwo_34 o_x4 h (fun v5 h => ?_)
      refine V_callSri (K' := K_X0_isToldPair) (av := [.ref (G.1 + v3), .ref (G.1 + v5)]) (rest := []) ys_X0_isToldPair C (yk_X0_isToldPair) l1_X0_103 (by decide) d_X0_areTwo_35 (fun v hv => ct_X0_isToldPair v3 v5 hv) rfl rfl (Nat.le_of_ble_eq_true rfl) h (fun v6 o6 h => ?_)
      refine V_if_eq (tgt := 64) C d_X0_areTwo_38 (by decide) o6 h (fun h => ?_) (fun h => ?_)
      · skip
        refine V_iinc (j := 4) (lv' := [(4, iv_i (wr_i (x4 + 1))), (0, .ref (G.1 + x0)), (1, iv_i x1), (2, iv_i x2), (3, iv_i x3)]) C d_X0_areTwo_64 rfl (by decide) rfl ?_
        refine V_goto (tgt := 13) C d_X0_areTwo_67 (by decide) ?_
        refine V_lv [1, 2, 3, 4, 0] rfl (ih (wr_i (x4 + 1)) (ok_wr _) h)
      · skip
        refine V_aload_n (j := 0) C d_X0_areTwo_41 rfl rfl ?_
        refine V_getR C ck_0 fw_X0_23 d_X0_areTwo_42 h (fun v7 h => ?_)
        refine V_iload_n (j := 3) C d_X0_areTwo_45 rfl rfl ?_
        refine V_aald (t := 0) C tc_0 d_X0_areTwo_46 o_x3 h (fun v8 h => ?_)
        refine V_aload_n (j := 0) C d_X0_areTwo_47 rfl rfl ?_
        refine V_getR C ck_0 fw_X0_23 d_X0_areTwo_48 h (fun v9 h => ?_)
        refine V_iload (j := 4) C d_X0_areTwo_51 rfl ?_
        refine V_aald (t := 0) C tc_0 d_X0_areTwo_53 o_x4 h (fun v10 h => ?_)
        refine V_iload_n (j := 1) C d_X0_areTwo_54 rfl rfl ?_
        refine V_iload_n (j := 2) C d_X0_areTwo_55 rfl rfl ?_
        refine V_callVri (K' := K_X1_differsOnlyBy) (a := v8) (ci := 1) (av := [.ref (G.1 + v10), iv_i x1, iv_i x2]) (rest := []) yi_X1_differsOnlyBy (by decide) rfl C (yk_X1_differsOnlyBy) l1_X0_107 (by decide) d_X0_areTwo_56 (fun v hv => ct_X1_differsOnlyBy v8 v10 x1 x2 o_x1 o_x2 hv) rfl rfl (Nat.le_of_ble_eq_true rfl) h (fun v11 o11 h => ?_)
        refine V_if_eq (tgt := 64) C d_X0_areTwo_59 (by decide) o11 h (fun h => ?_) (fun h => ?_)
        · skip
          refine V_iinc (j := 4) (lv' := [(4, iv_i (wr_i (x4 + 1))), (0, .ref (G.1 + x0)), (1, iv_i x1), (2, iv_i x2), (3, iv_i x3)]) C d_X0_areTwo_64 rfl (by decide) rfl ?_
          refine V_goto (tgt := 13) C d_X0_areTwo_67 (by decide) ?_
          refine V_lv [1, 2, 3, 4, 0] rfl (ih (wr_i (x4 + 1)) (ok_wr _) h)
        · skip
          refine V_iconst C d_X0_areTwo_62 ?_
          exact V_zret_r C hR d_X0_areTwo_63 (Or.inr rfl) h
    · skip
      refine V_iinc (j := 3) (lv' := [(3, iv_i (wr_i (x3 + 1))), (0, .ref (G.1 + x0)), (1, iv_i x1), (2, iv_i x2), (4, iv_i x4)]) C d_X0_areTwo_70 rfl (by decide) rfl ?_
      refine V_goto (tgt := 2) C d_X0_areTwo_73 (by decide) ?_
      refine V_lv [1, 2, 3, 0] rfl (hk_2 (wr_i (x3 + 1)) (ok_wr _) h)
set_option maxHeartbeats 4000000 in
set_option maxRecDepth 100000 in
theorem t_X0_areTwo_2 {X : XT_x} {G : GT_g} {z : Int} (C : Cx_ (K_X0_areTwo) X G) (hR : Rx_ X G (some .boolean)) (M : Mem_m) (x0 : Nat) (x1 : Int) (x2 : Int) (o_x1 : ok_i x1) (o_x2 : ok_i x2) : ∀ (n : Nat) (x3 : Int) (o_x3 : ok_i x3), f_X0_areTwo_2 G.2.2.2 M x0 x1 x2 n x3 = some z → V_ (K_X0_areTwo) X G (Fq_ X G (Qi_ G M z)) M 2 [(0, .ref (G.1 + x0)), (1, iv_i x1), (2, iv_i x2), (3, iv_i x3)] [] := by
  intro n
  induction n with
  | zero => intro x3 o_x3 h; exact absurd h (by simp [f_X0_areTwo_2])
  | succ n ih =>
    intro x3 o_x3 h
    unfold f_X0_areTwo_2 at h
    refine V_iload_n (j := 3) C d_X0_areTwo_2 rfl rfl ?_
    refine V_aload_n (j := 0) C d_X0_areTwo_3 rfl rfl ?_
    refine V_getI C ck_0 fw_X0_65 d_X0_areTwo_4 h (fun v1 o1 h => ?_)
    refine V_icmp_ge (tgt := 76) C d_X0_areTwo_7 (by decide) o_x3 o1 h (fun h => ?_) (fun h => ?_)
    · skip
      refine V_iconst C d_X0_areTwo_10 ?_
      refine V_istore (lv' := [(4, iv_i 0), (0, .ref (G.1 + x0)), (1, iv_i x1), (2, iv_i x2), (3, iv_i x3)]) C d_X0_areTwo_11 (by decide) rfl ?_
      refine V_lv [1, 2, 3, 4, 0] rfl (t_X0_areTwo_13 C hR M x0 x1 x2 x3 o_x1 o_x2 o_x3 (fun x3 => f_X0_areTwo_2 G.2.2.2 M x0 x1 x2 n x3) (fun x3 o_x3 h9 => ih x3 o_x3 h9) FU_ 0 (okc rfl) h)
    · skip
      refine V_iconst C d_X0_areTwo_76 ?_
      exact V_zret_r C hR d_X0_areTwo_77 (Or.inl rfl) h
set_option maxHeartbeats 4000000 in
set_option maxRecDepth 100000 in
theorem t_X0_areTwo {X : XT_x} {G : GT_g} {M : Mem_m} {z : Int} (C : Cx_ (K_X0_areTwo) X G) (hR : Rx_ X G (some .boolean)) (x0 : Nat) (x1 : Int) (x2 : Int) (o_x1 : ok_i x1) (o_x2 : ok_i x2) (h : f_X0_areTwo G.2.2.2 M x0 x1 x2 = some z) : V_ (K_X0_areTwo) X G (Fq_ X G (Qi_ G M z)) M 0 [(0, .ref (G.1 + x0)), (1, iv_i x1), (2, iv_i x2)] [] := by
  unfold f_X0_areTwo at h
  refine V_iconst C d_X0_areTwo_0 ?_
  refine V_istore_n (lv' := [(3, iv_i 0), (0, .ref (G.1 + x0)), (1, iv_i x1), (2, iv_i x2)]) C d_X0_areTwo_1 rfl (by decide) rfl ?_
  refine V_lv [1, 2, 3, 0] rfl (t_X0_areTwo_2 C hR M x0 x1 x2 o_x1 o_x2 FU_ 0 (okc rfl) h)
set_option maxHeartbeats 4000000 in
set_option maxRecDepth 100000 in
theorem ct_X0_areTwo {l : Launch} {G : GT_g} {M : Mem_m} (x0 : Nat) (x1 : Int) (x2 : Int) (o_x1 : ok_i x1) (o_x2 : ok_i x2) {z : Int} (h : f_X0_areTwo G.2.2.2 M x0 x1 x2 = some z) : MI_ l yX0_areTwo K_X0_areTwo (some .boolean) G M [.ref (G.1 + x0), iv_i x1, iv_i x2] M z :=
  met_of (by decide +kernel) rfl (Nat.le_of_ble_eq_true rfl) (fun X hl C hR => by subst hl; exact t_X0_areTwo C hR x0 x1 x2 o_x1 o_x2 h)
theorem d_X10_soundOrEdge_0 : decode cX10_soundOrEdge 0 = .ok (.iload_n 1, 1) := by decide +kernel
theorem d_X10_soundOrEdge_1 : decode cX10_soundOrEdge 1 = .ok (.ifCond .lt 20, 3) := by decide +kernel
theorem d_X10_soundOrEdge_4 : decode cX10_soundOrEdge 4 = .ok (.iload_n 1, 1) := by decide +kernel
theorem d_X10_soundOrEdge_5 : decode cX10_soundOrEdge 5 = .ok (.aload_n 0, 1) := by decide +kernel
theorem d_X10_soundOrEdge_6 : decode cX10_soundOrEdge 6 = .ok (.getfield 15, 3) := by decide +kernel
theorem d_X10_soundOrEdge_9 : decode cX10_soundOrEdge 9 = .ok (.if_icmp .ge 12, 3) := by decide +kernel
theorem d_X10_soundOrEdge_12 : decode cX10_soundOrEdge 12 = .ok (.aload_n 0, 1) := by decide +kernel
theorem d_X10_soundOrEdge_13 : decode cX10_soundOrEdge 13 = .ok (.getfield 9, 3) := by decide +kernel
theorem d_X10_soundOrEdge_16 : decode cX10_soundOrEdge 16 = .ok (.iload_n 1, 1) := by decide +kernel
theorem d_X10_soundOrEdge_17 : decode cX10_soundOrEdge 17 = .ok (.iaload, 1) := by decide +kernel
theorem d_X10_soundOrEdge_18 : decode cX10_soundOrEdge 18 = .ok (.goto 5, 3) := by decide +kernel
theorem d_X10_soundOrEdge_21 : decode cX10_soundOrEdge 21 = .ok (.bipush 14, 2) := by decide +kernel
theorem d_X10_soundOrEdge_23 : decode cX10_soundOrEdge 23 = .ok (.ireturn, 1) := by decide +kernel
set_option maxHeartbeats 4000000 in
set_option maxRecDepth 100000 in
theorem t_X10_soundOrEdge {X : XT_x} {G : GT_g} {M : Mem_m} {z : Int} (C : Cx_ (K_X10_soundOrEdge) X G) (hR : Rx_ X G (some .int)) (x0 : Nat) (x1 : Int) (o_x1 : ok_i x1) (h : f_X10_soundOrEdge G.2.2.2 M x0 x1 = some z) : V_ (K_X10_soundOrEdge) X G (Fq_ X G (Qi_ G M z)) M 0 [(0, .ref (G.1 + x0)), (1, iv_i x1)] [] := by
  unfold f_X10_soundOrEdge at h
  refine V_iload_n (j := 1) C d_X10_soundOrEdge_0 rfl rfl ?_
  refine V_if_lt (tgt := 21) C d_X10_soundOrEdge_1 (by decide) o_x1 h (fun h => ?_) (fun h => ?_)
  · skip
    refine V_bipush (v := 14) C d_X10_soundOrEdge_21 rfl ?_
    exact V_iret_r C hR d_X10_soundOrEdge_23 (okc rfl) h
  · skip
    refine V_iload_n (j := 1) C d_X10_soundOrEdge_4 rfl rfl ?_
    refine V_aload_n (j := 0) C d_X10_soundOrEdge_5 rfl rfl ?_
    refine V_getI C ck_10 fw_X10_15 d_X10_soundOrEdge_6 h (fun v1 o1 h => ?_)
    refine V_icmp_ge (tgt := 21) C d_X10_soundOrEdge_9 (by decide) o_x1 o1 h (fun h => ?_) (fun h => ?_)
    · skip
      refine V_aload_n (j := 0) C d_X10_soundOrEdge_12 rfl rfl ?_
      refine V_getR C ck_10 fw_X10_9 d_X10_soundOrEdge_13 h (fun v2 h => ?_)
      refine V_iload_n (j := 1) C d_X10_soundOrEdge_16 rfl rfl ?_
      refine V_iald C d_X10_soundOrEdge_17 o_x1 h (fun v3 o3 h => ?_)
      refine V_goto (tgt := 23) C d_X10_soundOrEdge_18 (by decide) ?_
      exact V_iret_r C hR d_X10_soundOrEdge_23 o3 h
    · skip
      refine V_bipush (v := 14) C d_X10_soundOrEdge_21 rfl ?_
      exact V_iret_r C hR d_X10_soundOrEdge_23 (okc rfl) h
set_option maxHeartbeats 4000000 in
set_option maxRecDepth 100000 in
theorem ct_X10_soundOrEdge {l : Launch} {G : GT_g} {M : Mem_m} (x0 : Nat) (x1 : Int) (o_x1 : ok_i x1) {z : Int} (h : f_X10_soundOrEdge G.2.2.2 M x0 x1 = some z) : MI_ l yX10_soundOrEdge K_X10_soundOrEdge (some .int) G M [.ref (G.1 + x0), iv_i x1] M z :=
  met_of (by decide +kernel) rfl (Nat.le_of_ble_eq_true rfl) (fun X hl C hR => by subst hl; exact t_X10_soundOrEdge C hR x0 x1 o_x1 h)
theorem d_X0_isSaidBetween_0 : decode cX0_isSaidBetween 0 = .ok (.iconst 0, 1) := by decide +kernel
theorem d_X0_isSaidBetween_1 : decode cX0_isSaidBetween 1 = .ok (.istore 4, 2) := by decide +kernel
theorem d_X0_isSaidBetween_3 : decode cX0_isSaidBetween 3 = .ok (.iload 4, 2) := by decide +kernel
theorem d_X0_isSaidBetween_5 : decode cX0_isSaidBetween 5 = .ok (.aload_n 0, 1) := by decide +kernel
theorem d_X0_isSaidBetween_6 : decode cX0_isSaidBetween 6 = .ok (.getfield 65, 3) := by decide +kernel
theorem d_X0_isSaidBetween_9 : decode cX0_isSaidBetween 9 = .ok (.if_icmp .ge 93, 3) := by decide +kernel
theorem d_X0_isSaidBetween_12 : decode cX0_isSaidBetween 12 = .ok (.aload_n 0, 1) := by decide +kernel
theorem d_X0_isSaidBetween_13 : decode cX0_isSaidBetween 13 = .ok (.getfield 23, 3) := by decide +kernel
theorem d_X0_isSaidBetween_16 : decode cX0_isSaidBetween 16 = .ok (.iload 4, 2) := by decide +kernel
theorem d_X0_isSaidBetween_18 : decode cX0_isSaidBetween 18 = .ok (.aaload, 1) := by decide +kernel
theorem d_X0_isSaidBetween_19 : decode cX0_isSaidBetween 19 = .ok (.getfield 118, 3) := by decide +kernel
theorem d_X0_isSaidBetween_22 : decode cX0_isSaidBetween 22 = .ok (.astore 5, 2) := by decide +kernel
theorem d_X0_isSaidBetween_24 : decode cX0_isSaidBetween 24 = .ok (.iconst 0, 1) := by decide +kernel
theorem d_X0_isSaidBetween_25 : decode cX0_isSaidBetween 25 = .ok (.istore 6, 2) := by decide +kernel
theorem d_X0_isSaidBetween_27 : decode cX0_isSaidBetween 27 = .ok (.aload_n 0, 1) := by decide +kernel
theorem d_X0_isSaidBetween_28 : decode cX0_isSaidBetween 28 = .ok (.getfield 23, 3) := by decide +kernel
theorem d_X0_isSaidBetween_31 : decode cX0_isSaidBetween 31 = .ok (.iload 4, 2) := by decide +kernel
theorem d_X0_isSaidBetween_33 : decode cX0_isSaidBetween 33 = .ok (.aaload, 1) := by decide +kernel
theorem d_X0_isSaidBetween_34 : decode cX0_isSaidBetween 34 = .ok (.invokevirtual 111, 3) := by decide +kernel
theorem d_X0_isSaidBetween_37 : decode cX0_isSaidBetween 37 = .ok (.ifCond .eq 59, 3) := by decide +kernel
theorem d_X0_isSaidBetween_40 : decode cX0_isSaidBetween 40 = .ok (.iload 6, 2) := by decide +kernel
theorem d_X0_isSaidBetween_42 : decode cX0_isSaidBetween 42 = .ok (.aload 5, 2) := by decide +kernel
theorem d_X0_isSaidBetween_44 : decode cX0_isSaidBetween 44 = .ok (.getfield 126, 3) := by decide +kernel
theorem d_X0_isSaidBetween_47 : decode cX0_isSaidBetween 47 = .ok (.if_icmp .ge 49, 3) := by decide +kernel
theorem d_X0_isSaidBetween_50 : decode cX0_isSaidBetween 50 = .ok (.aload 5, 2) := by decide +kernel
theorem d_X0_isSaidBetween_52 : decode cX0_isSaidBetween 52 = .ok (.getfield 129, 3) := by decide +kernel
theorem d_X0_isSaidBetween_55 : decode cX0_isSaidBetween 55 = .ok (.iload 6, 2) := by decide +kernel
theorem d_X0_isSaidBetween_57 : decode cX0_isSaidBetween 57 = .ok (.iaload, 1) := by decide +kernel
theorem d_X0_isSaidBetween_58 : decode cX0_isSaidBetween 58 = .ok (.iload_n 1, 1) := by decide +kernel
theorem d_X0_isSaidBetween_59 : decode cX0_isSaidBetween 59 = .ok (.if_icmp .ne 31, 3) := by decide +kernel
theorem d_X0_isSaidBetween_62 : decode cX0_isSaidBetween 62 = .ok (.aload 5, 2) := by decide +kernel
theorem d_X0_isSaidBetween_64 : decode cX0_isSaidBetween 64 = .ok (.iload 6, 2) := by decide +kernel
theorem d_X0_isSaidBetween_66 : decode cX0_isSaidBetween 66 = .ok (.iconst 1, 1) := by decide +kernel
theorem d_X0_isSaidBetween_67 : decode cX0_isSaidBetween 67 = .ok (.isub, 1) := by decide +kernel
theorem d_X0_isSaidBetween_68 : decode cX0_isSaidBetween 68 = .ok (.invokevirtual 132, 3) := by decide +kernel
theorem d_X0_isSaidBetween_71 : decode cX0_isSaidBetween 71 = .ok (.iload_n 2, 1) := by decide +kernel
theorem d_X0_isSaidBetween_72 : decode cX0_isSaidBetween 72 = .ok (.if_icmp .ne 18, 3) := by decide +kernel
theorem d_X0_isSaidBetween_75 : decode cX0_isSaidBetween 75 = .ok (.aload 5, 2) := by decide +kernel
theorem d_X0_isSaidBetween_77 : decode cX0_isSaidBetween 77 = .ok (.iload 6, 2) := by decide +kernel
theorem d_X0_isSaidBetween_79 : decode cX0_isSaidBetween 79 = .ok (.iconst 1, 1) := by decide +kernel
theorem d_X0_isSaidBetween_80 : decode cX0_isSaidBetween 80 = .ok (.iadd, 1) := by decide +kernel
theorem d_X0_isSaidBetween_81 : decode cX0_isSaidBetween 81 = .ok (.invokevirtual 132, 3) := by decide +kernel
theorem d_X0_isSaidBetween_84 : decode cX0_isSaidBetween 84 = .ok (.iload_n 3, 1) := by decide +kernel
theorem d_X0_isSaidBetween_85 : decode cX0_isSaidBetween 85 = .ok (.if_icmp .ne 5, 3) := by decide +kernel
theorem d_X0_isSaidBetween_88 : decode cX0_isSaidBetween 88 = .ok (.iconst 1, 1) := by decide +kernel
theorem d_X0_isSaidBetween_89 : decode cX0_isSaidBetween 89 = .ok (.ireturn, 1) := by decide +kernel
theorem d_X0_isSaidBetween_90 : decode cX0_isSaidBetween 90 = .ok (.iinc 6 1, 3) := by decide +kernel
theorem d_X0_isSaidBetween_93 : decode cX0_isSaidBetween 93 = .ok (.goto (-66), 3) := by decide +kernel
theorem d_X0_isSaidBetween_96 : decode cX0_isSaidBetween 96 = .ok (.iinc 4 1, 3) := by decide +kernel
theorem d_X0_isSaidBetween_99 : decode cX0_isSaidBetween 99 = .ok (.goto (-96), 3) := by decide +kernel
theorem d_X0_isSaidBetween_102 : decode cX0_isSaidBetween 102 = .ok (.iconst 0, 1) := by decide +kernel
theorem d_X0_isSaidBetween_103 : decode cX0_isSaidBetween 103 = .ok (.ireturn, 1) := by decide +kernel
set_option maxHeartbeats 4000000 in
set_option maxRecDepth 100000 in
theorem t_X0_isSaidBetween_27 {X : XT_x} {G : GT_g} {z : Int} (C : Cx_ (K_X0_isSaidBetween) X G) (hR : Rx_ X G (some .boolean)) (M : Mem_m) (x0 : Nat) (x1 : Int) (x2 : Int) (x3 : Int) (x4 : Int) (x5 : Nat) (o_x1 : ok_i x1) (o_x2 : ok_i x2) (o_x3 : ok_i x3) (o_x4 : ok_i x4) (k_3 : Int → Option Int) (hk_3 : ∀ (x4 : Int) (o_x4 : ok_i x4), k_3 x4 = some z → V_ (K_X0_isSaidBetween) X G (Fq_ X G (Qi_ G M z)) M 3 [(0, .ref (G.1 + x0)), (1, iv_i x1), (2, iv_i x2), (3, iv_i x3), (4, iv_i x4)] []) : ∀ (n : Nat) (x6 : Int) (o_x6 : ok_i x6), f_X0_isSaidBetween_27 G.2.2.2 k_3 M x0 x1 x2 x3 x4 x5 n x6 = some z → V_ (K_X0_isSaidBetween) X G (Fq_ X G (Qi_ G M z)) M 27 [(0, .ref (G.1 + x0)), (1, iv_i x1), (2, iv_i x2), (3, iv_i x3), (4, iv_i x4), (5, .ref (G.1 + x5)), (6, iv_i x6)] [] := by
  intro n
  induction n with
  | zero => intro x6 o_x6 h; exact absurd h (by simp [f_X0_isSaidBetween_27])
  | succ n ih =>
    intro x6 o_x6 h
    unfold f_X0_isSaidBetween_27 at h
    refine V_aload_n (j := 0) C d_X0_isSaidBetween_27 rfl rfl ?_
    refine V_getR C ck_0 fw_X0_23 d_X0_isSaidBetween_28 h (fun v1 h => ?_)
    refine V_iload (j := 4) C d_X0_isSaidBetween_31 rfl ?_
    refine V_aald (t := 0) C tc_0 d_X0_isSaidBetween_33 o_x4 h (fun v2 h => ?_)
    refine V_callVri (K' := K_X1_isCounted) (a := v2) (ci := 1) (av := []) (rest := []) yi_X1_isCounted (by decide) rfl C (yk_X1_isCounted) l1_X0_111 (by decide) d_X0_isSaidBetween_34 (fun v hv => ct_X1_isCounted v2 hv) rfl rfl (Nat.le_of_ble_eq_true rfl) h (fun v3 o3 h => ?_)
    refine V_if_eq (tgt := 96) C d_X0_isSaidBetween_37 (by decide) o3 h (fun h => ?_) (fun h => ?_)
    · skip
      refine V_iinc (j := 4) (lv' := [(4, iv_i (wr_i (x4 + 1))), (0, .ref (G.1 + x0)), (1, iv_i x1), (2, iv_i x2), (3, iv_i x3), (5, .ref (G.1 + x5)), (6, iv_i x6)]) C d_X0_isSaidBetween_96 rfl (by decide) rfl ?_
      refine V_goto (tgt := 3) C d_X0_isSaidBetween_99 (by decide) ?_
      refine V_lv [1, 2, 3, 4, 0] rfl (hk_3 (wr_i (x4 + 1)) (ok_wr _) h)
    · skip
      refine V_iload (j := 6) C d_X0_isSaidBetween_40 rfl ?_
      refine V_aload (j := 5) C d_X0_isSaidBetween_42 rfl ?_
      refine V_getI C ck_10 fw_X0_126 d_X0_isSaidBetween_44 h (fun v4 o4 h => ?_)
      refine V_icmp_ge (tgt := 96) C d_X0_isSaidBetween_47 (by decide) o_x6 o4 h (fun h => ?_) (fun h => ?_)
      · skip
        refine V_aload (j := 5) C d_X0_isSaidBetween_50 rfl ?_
        refine V_getR C ck_10 fw_X0_129 d_X0_isSaidBetween_52 h (fun v5 h => ?_)
        refine V_iload (j := 6) C d_X0_isSaidBetween_55 rfl ?_
        refine V_iald C d_X0_isSaidBetween_57 o_x6 h (fun v6 o6 h => ?_)
        refine V_iload_n (j := 1) C d_X0_isSaidBetween_58 rfl rfl ?_
        refine V_icmp_ne (tgt := 90) C d_X0_isSaidBetween_59 (by decide) o6 o_x1 h (fun h => ?_) (fun h => ?_)
        · skip
          refine V_aload (j := 5) C d_X0_isSaidBetween_62 rfl ?_
          refine V_iload (j := 6) C d_X0_isSaidBetween_64 rfl ?_
          refine V_iconst C d_X0_isSaidBetween_66 ?_
          refine V_isub C d_X0_isSaidBetween_67 ?_
          refine V_callVri (K' := K_X10_soundOrEdge) (a := x5) (ci := 10) (av := [iv_i (wr_i (x6 - 1))]) (rest := []) yi_X10_soundOrEdge (by decide) rfl C (yk_X10_soundOrEdge) l1_X0_132 (by decide) d_X0_isSaidBetween_68 (fun v hv => ct_X10_soundOrEdge x5 (wr_i (x6 - 1)) (ok_wr _) hv) rfl rfl (Nat.le_of_ble_eq_true rfl) h (fun v7 o7 h => ?_)
          refine V_iload_n (j := 2) C d_X0_isSaidBetween_71 rfl rfl ?_
          refine V_icmp_ne (tgt := 90) C d_X0_isSaidBetween_72 (by decide) o7 o_x2 h (fun h => ?_) (fun h => ?_)
          · skip
            refine V_aload (j := 5) C d_X0_isSaidBetween_75 rfl ?_
            refine V_iload (j := 6) C d_X0_isSaidBetween_77 rfl ?_
            refine V_iconst C d_X0_isSaidBetween_79 ?_
            refine V_iadd C d_X0_isSaidBetween_80 ?_
            refine V_callVri (K' := K_X10_soundOrEdge) (a := x5) (ci := 10) (av := [iv_i (wr_i (x6 + 1))]) (rest := []) yi_X10_soundOrEdge (by decide) rfl C (yk_X10_soundOrEdge) l1_X0_132 (by decide) d_X0_isSaidBetween_81 (fun v hv => ct_X10_soundOrEdge x5 (wr_i (x6 + 1)) (ok_wr _) hv) rfl rfl (Nat.le_of_ble_eq_true rfl) h (fun v8 o8 h => ?_)
            refine V_iload_n (j := 3) C d_X0_isSaidBetween_84 rfl rfl ?_
            refine V_icmp_ne (tgt := 90) C d_X0_isSaidBetween_85 (by decide) o8 o_x3 h (fun h => ?_) (fun h => ?_)
            · skip
              refine V_iconst C d_X0_isSaidBetween_88 ?_
              exact V_zret_r C hR d_X0_isSaidBetween_89 (Or.inr rfl) h
            · skip
              refine V_iinc (j := 6) (lv' := [(6, iv_i (wr_i (x6 + 1))), (0, .ref (G.1 + x0)), (1, iv_i x1), (2, iv_i x2), (3, iv_i x3), (4, iv_i x4), (5, .ref (G.1 + x5))]) C d_X0_isSaidBetween_90 rfl (by decide) rfl ?_
              refine V_goto (tgt := 27) C d_X0_isSaidBetween_93 (by decide) ?_
              refine V_lv [1, 2, 3, 4, 5, 6, 0] rfl (ih (wr_i (x6 + 1)) (ok_wr _) h)
          · skip
            refine V_iinc (j := 6) (lv' := [(6, iv_i (wr_i (x6 + 1))), (0, .ref (G.1 + x0)), (1, iv_i x1), (2, iv_i x2), (3, iv_i x3), (4, iv_i x4), (5, .ref (G.1 + x5))]) C d_X0_isSaidBetween_90 rfl (by decide) rfl ?_
            refine V_goto (tgt := 27) C d_X0_isSaidBetween_93 (by decide) ?_
            refine V_lv [1, 2, 3, 4, 5, 6, 0] rfl (ih (wr_i (x6 + 1)) (ok_wr _) h)
        · skip
          refine V_iinc (j := 6) (lv' := [(6, iv_i (wr_i (x6 + 1))), (0, .ref (G.1 + x0)), (1, iv_i x1), (2, iv_i x2), (3, iv_i x3), (4, iv_i x4), (5, .ref (G.1 + x5))]) C d_X0_isSaidBetween_90 rfl (by decide) rfl ?_
          refine V_goto (tgt := 27) C d_X0_isSaidBetween_93 (by decide) ?_
          refine V_lv [1, 2, 3, 4, 5, 6, 0] rfl (ih (wr_i (x6 + 1)) (ok_wr _) h)
      · skip
        refine V_iinc (j := 4) (lv' := [(4, iv_i (wr_i (x4 + 1))), (0, .ref (G.1 + x0)), (1, iv_i x1), (2, iv_i x2), (3, iv_i x3), (5, .ref (G.1 + x5)), (6, iv_i x6)]) C d_X0_isSaidBetween_96 rfl (by decide) rfl ?_
        refine V_goto (tgt := 3) C d_X0_isSaidBetween_99 (by decide) ?_
        refine V_lv [1, 2, 3, 4, 0] rfl (hk_3 (wr_i (x4 + 1)) (ok_wr _) h)
set_option maxHeartbeats 4000000 in
set_option maxRecDepth 100000 in
theorem t_X0_isSaidBetween_3 {X : XT_x} {G : GT_g} {z : Int} (C : Cx_ (K_X0_isSaidBetween) X G) (hR : Rx_ X G (some .boolean)) (M : Mem_m) (x0 : Nat) (x1 : Int) (x2 : Int) (x3 : Int) (o_x1 : ok_i x1) (o_x2 : ok_i x2) (o_x3 : ok_i x3) : ∀ (n : Nat) (x4 : Int) (o_x4 : ok_i x4), f_X0_isSaidBetween_3 G.2.2.2 M x0 x1 x2 x3 n x4 = some z → V_ (K_X0_isSaidBetween) X G (Fq_ X G (Qi_ G M z)) M 3 [(0, .ref (G.1 + x0)), (1, iv_i x1), (2, iv_i x2), (3, iv_i x3), (4, iv_i x4)] [] := by
  intro n
  induction n with
  | zero => intro x4 o_x4 h; exact absurd h (by simp [f_X0_isSaidBetween_3])
  | succ n ih =>
    intro x4 o_x4 h
    unfold f_X0_isSaidBetween_3 at h
    refine V_iload (j := 4) C d_X0_isSaidBetween_3 rfl ?_
    refine V_aload_n (j := 0) C d_X0_isSaidBetween_5 rfl rfl ?_
    refine V_getI C ck_0 fw_X0_65 d_X0_isSaidBetween_6 h (fun v1 o1 h => ?_)
    refine V_icmp_ge (tgt := 102) C d_X0_isSaidBetween_9 (by decide) o_x4 o1 h (fun h => ?_) (fun h => ?_)
    · skip
      refine V_aload_n (j := 0) C d_X0_isSaidBetween_12 rfl rfl ?_
      refine V_getR C ck_0 fw_X0_23 d_X0_isSaidBetween_13 h (fun v2 h => ?_)
      refine V_iload (j := 4) C d_X0_isSaidBetween_16 rfl ?_
      refine V_aald (t := 0) C tc_0 d_X0_isSaidBetween_18 o_x4 h (fun v3 h => ?_)
      refine V_getR C ck_1 fw_X0_118 d_X0_isSaidBetween_19 h (fun v4 h => ?_)
      refine V_astore (lv' := [(5, .ref (G.1 + v4)), (0, .ref (G.1 + x0)), (1, iv_i x1), (2, iv_i x2), (3, iv_i x3), (4, iv_i x4)]) C d_X0_isSaidBetween_22 (by decide) rfl ?_
      refine V_iconst C d_X0_isSaidBetween_24 ?_
      refine V_istore (lv' := [(6, iv_i 0), (5, .ref (G.1 + v4)), (0, .ref (G.1 + x0)), (1, iv_i x1), (2, iv_i x2), (3, iv_i x3), (4, iv_i x4)]) C d_X0_isSaidBetween_25 (by decide) rfl ?_
      refine V_lv [2, 3, 4, 5, 6, 1, 0] rfl (t_X0_isSaidBetween_27 C hR M x0 x1 x2 x3 x4 v4 o_x1 o_x2 o_x3 o_x4 (fun x4 => f_X0_isSaidBetween_3 G.2.2.2 M x0 x1 x2 x3 n x4) (fun x4 o_x4 h9 => ih x4 o_x4 h9) FU_ 0 (okc rfl) h)
    · skip
      refine V_iconst C d_X0_isSaidBetween_102 ?_
      exact V_zret_r C hR d_X0_isSaidBetween_103 (Or.inl rfl) h
set_option maxHeartbeats 4000000 in
set_option maxRecDepth 100000 in
theorem t_X0_isSaidBetween {X : XT_x} {G : GT_g} {M : Mem_m} {z : Int} (C : Cx_ (K_X0_isSaidBetween) X G) (hR : Rx_ X G (some .boolean)) (x0 : Nat) (x1 : Int) (x2 : Int) (x3 : Int) (o_x1 : ok_i x1) (o_x2 : ok_i x2) (o_x3 : ok_i x3) (h : f_X0_isSaidBetween G.2.2.2 M x0 x1 x2 x3 = some z) : V_ (K_X0_isSaidBetween) X G (Fq_ X G (Qi_ G M z)) M 0 [(0, .ref (G.1 + x0)), (1, iv_i x1), (2, iv_i x2), (3, iv_i x3)] [] := by
  unfold f_X0_isSaidBetween at h
  refine V_iconst C d_X0_isSaidBetween_0 ?_
  refine V_istore (lv' := [(4, iv_i 0), (0, .ref (G.1 + x0)), (1, iv_i x1), (2, iv_i x2), (3, iv_i x3)]) C d_X0_isSaidBetween_1 (by decide) rfl ?_
  refine V_lv [1, 2, 3, 4, 0] rfl (t_X0_isSaidBetween_3 C hR M x0 x1 x2 x3 o_x1 o_x2 o_x3 FU_ 0 (okc rfl) h)
set_option maxHeartbeats 4000000 in
set_option maxRecDepth 100000 in
theorem ct_X0_isSaidBetween {l : Launch} {G : GT_g} {M : Mem_m} (x0 : Nat) (x1 : Int) (x2 : Int) (x3 : Int) (o_x1 : ok_i x1) (o_x2 : ok_i x2) (o_x3 : ok_i x3) {z : Int} (h : f_X0_isSaidBetween G.2.2.2 M x0 x1 x2 x3 = some z) : MI_ l yX0_isSaidBetween K_X0_isSaidBetween (some .boolean) G M [.ref (G.1 + x0), iv_i x1, iv_i x2, iv_i x3] M z :=
  met_of (by decide +kernel) rfl (Nat.le_of_ble_eq_true rfl) (fun X hl C hR => by subst hl; exact t_X0_isSaidBetween C hR x0 x1 x2 x3 o_x1 o_x2 o_x3 h)
theorem d_X0_meetsFrom_0 : decode cX0_meetsFrom 0 = .ok (.iconst 0, 1) := by decide +kernel
theorem d_X0_meetsFrom_1 : decode cX0_meetsFrom 1 = .ok (.istore 4, 2) := by decide +kernel
theorem d_X0_meetsFrom_3 : decode cX0_meetsFrom 3 = .ok (.iload 4, 2) := by decide +kernel
theorem d_X0_meetsFrom_5 : decode cX0_meetsFrom 5 = .ok (.aload_n 1, 1) := by decide +kernel
theorem d_X0_meetsFrom_6 : decode cX0_meetsFrom 6 = .ok (.getfield 126, 3) := by decide +kernel
theorem d_X0_meetsFrom_9 : decode cX0_meetsFrom 9 = .ok (.if_icmp .ge 46, 3) := by decide +kernel
theorem d_X0_meetsFrom_12 : decode cX0_meetsFrom 12 = .ok (.aload_n 1, 1) := by decide +kernel
theorem d_X0_meetsFrom_13 : decode cX0_meetsFrom 13 = .ok (.getfield 129, 3) := by decide +kernel
theorem d_X0_meetsFrom_16 : decode cX0_meetsFrom 16 = .ok (.iload 4, 2) := by decide +kernel
theorem d_X0_meetsFrom_18 : decode cX0_meetsFrom 18 = .ok (.iaload, 1) := by decide +kernel
theorem d_X0_meetsFrom_19 : decode cX0_meetsFrom 19 = .ok (.iload_n 2, 1) := by decide +kernel
theorem d_X0_meetsFrom_20 : decode cX0_meetsFrom 20 = .ok (.if_icmp .ne 29, 3) := by decide +kernel
theorem d_X0_meetsFrom_23 : decode cX0_meetsFrom 23 = .ok (.aload_n 0, 1) := by decide +kernel
theorem d_X0_meetsFrom_24 : decode cX0_meetsFrom 24 = .ok (.iload_n 3, 1) := by decide +kernel
theorem d_X0_meetsFrom_25 : decode cX0_meetsFrom 25 = .ok (.aload_n 1, 1) := by decide +kernel
theorem d_X0_meetsFrom_26 : decode cX0_meetsFrom 26 = .ok (.iload 4, 2) := by decide +kernel
theorem d_X0_meetsFrom_28 : decode cX0_meetsFrom 28 = .ok (.iconst 1, 1) := by decide +kernel
theorem d_X0_meetsFrom_29 : decode cX0_meetsFrom 29 = .ok (.isub, 1) := by decide +kernel
theorem d_X0_meetsFrom_30 : decode cX0_meetsFrom 30 = .ok (.invokevirtual 132, 3) := by decide +kernel
theorem d_X0_meetsFrom_33 : decode cX0_meetsFrom 33 = .ok (.aload_n 1, 1) := by decide +kernel
theorem d_X0_meetsFrom_34 : decode cX0_meetsFrom 34 = .ok (.iload 4, 2) := by decide +kernel
theorem d_X0_meetsFrom_36 : decode cX0_meetsFrom 36 = .ok (.iconst 1, 1) := by decide +kernel
theorem d_X0_meetsFrom_37 : decode cX0_meetsFrom 37 = .ok (.iadd, 1) := by decide +kernel
theorem d_X0_meetsFrom_38 : decode cX0_meetsFrom 38 = .ok (.invokevirtual 132, 3) := by decide +kernel
theorem d_X0_meetsFrom_41 : decode cX0_meetsFrom 41 = .ok (.invokevirtual 136, 3) := by decide +kernel
theorem d_X0_meetsFrom_44 : decode cX0_meetsFrom 44 = .ok (.ifCond .eq 5, 3) := by decide +kernel
theorem d_X0_meetsFrom_47 : decode cX0_meetsFrom 47 = .ok (.iconst 1, 1) := by decide +kernel
theorem d_X0_meetsFrom_48 : decode cX0_meetsFrom 48 = .ok (.ireturn, 1) := by decide +kernel
theorem d_X0_meetsFrom_49 : decode cX0_meetsFrom 49 = .ok (.iinc 4 1, 3) := by decide +kernel
theorem d_X0_meetsFrom_52 : decode cX0_meetsFrom 52 = .ok (.goto (-49), 3) := by decide +kernel
theorem d_X0_meetsFrom_55 : decode cX0_meetsFrom 55 = .ok (.iconst 0, 1) := by decide +kernel
theorem d_X0_meetsFrom_56 : decode cX0_meetsFrom 56 = .ok (.ireturn, 1) := by decide +kernel
set_option maxHeartbeats 4000000 in
set_option maxRecDepth 100000 in
theorem t_X0_meetsFrom_3 {X : XT_x} {G : GT_g} {z : Int} (C : Cx_ (K_X0_meetsFrom) X G) (hR : Rx_ X G (some .boolean)) (M : Mem_m) (x0 : Nat) (x1 : Nat) (x2 : Int) (x3 : Int) (o_x2 : ok_i x2) (o_x3 : ok_i x3) : ∀ (n : Nat) (x4 : Int) (o_x4 : ok_i x4), f_X0_meetsFrom_3 G.2.2.2 M x0 x1 x2 x3 n x4 = some z → V_ (K_X0_meetsFrom) X G (Fq_ X G (Qi_ G M z)) M 3 [(0, .ref (G.1 + x0)), (1, .ref (G.1 + x1)), (2, iv_i x2), (3, iv_i x3), (4, iv_i x4)] [] := by
  intro n
  induction n with
  | zero => intro x4 o_x4 h; exact absurd h (by simp [f_X0_meetsFrom_3])
  | succ n ih =>
    intro x4 o_x4 h
    unfold f_X0_meetsFrom_3 at h
    refine V_iload (j := 4) C d_X0_meetsFrom_3 rfl ?_
    refine V_aload_n (j := 1) C d_X0_meetsFrom_5 rfl rfl ?_
    refine V_getI C ck_10 fw_X0_126 d_X0_meetsFrom_6 h (fun v1 o1 h => ?_)
    refine V_icmp_ge (tgt := 55) C d_X0_meetsFrom_9 (by decide) o_x4 o1 h (fun h => ?_) (fun h => ?_)
    · skip
      refine V_aload_n (j := 1) C d_X0_meetsFrom_12 rfl rfl ?_
      refine V_getR C ck_10 fw_X0_129 d_X0_meetsFrom_13 h (fun v2 h => ?_)
      refine V_iload (j := 4) C d_X0_meetsFrom_16 rfl ?_
      refine V_iald C d_X0_meetsFrom_18 o_x4 h (fun v3 o3 h => ?_)
      refine V_iload_n (j := 2) C d_X0_meetsFrom_19 rfl rfl ?_
      refine V_icmp_ne (tgt := 49) C d_X0_meetsFrom_20 (by decide) o3 o_x2 h (fun h => ?_) (fun h => ?_)
      · skip
        refine V_aload_n (j := 0) C d_X0_meetsFrom_23 rfl rfl ?_
        refine V_iload_n (j := 3) C d_X0_meetsFrom_24 rfl rfl ?_
        refine V_aload_n (j := 1) C d_X0_meetsFrom_25 rfl rfl ?_
        refine V_iload (j := 4) C d_X0_meetsFrom_26 rfl ?_
        refine V_iconst C d_X0_meetsFrom_28 ?_
        refine V_isub C d_X0_meetsFrom_29 ?_
        refine V_callVri (K' := K_X10_soundOrEdge) (a := x1) (ci := 10) (av := [iv_i (wr_i (x4 - 1))]) (rest := [iv_i x3, .ref (G.1 + x0)]) yi_X10_soundOrEdge (by decide) rfl C (yk_X10_soundOrEdge) l1_X0_132 (by decide) d_X0_meetsFrom_30 (fun v hv => ct_X10_soundOrEdge x1 (wr_i (x4 - 1)) (ok_wr _) hv) rfl rfl (Nat.le_of_ble_eq_true rfl) h (fun v4 o4 h => ?_)
        refine V_aload_n (j := 1) C d_X0_meetsFrom_33 rfl rfl ?_
        refine V_iload (j := 4) C d_X0_meetsFrom_34 rfl ?_
        refine V_iconst C d_X0_meetsFrom_36 ?_
        refine V_iadd C d_X0_meetsFrom_37 ?_
        refine V_callVri (K' := K_X10_soundOrEdge) (a := x1) (ci := 10) (av := [iv_i (wr_i (x4 + 1))]) (rest := [iv_i v4, iv_i x3, .ref (G.1 + x0)]) yi_X10_soundOrEdge (by decide) rfl C (yk_X10_soundOrEdge) l1_X0_132 (by decide) d_X0_meetsFrom_38 (fun v hv => ct_X10_soundOrEdge x1 (wr_i (x4 + 1)) (ok_wr _) hv) rfl rfl (Nat.le_of_ble_eq_true rfl) h (fun v5 o5 h => ?_)
        refine V_callVri (K' := K_X0_isSaidBetween) (a := x0) (ci := 0) (av := [iv_i x3, iv_i v4, iv_i v5]) (rest := []) yi_X0_isSaidBetween (by decide) rfl C (yk_X0_isSaidBetween) l1_X0_136 (by decide) d_X0_meetsFrom_41 (fun v hv => ct_X0_isSaidBetween x0 x3 v4 v5 o_x3 o4 o5 hv) rfl rfl (Nat.le_of_ble_eq_true rfl) h (fun v6 o6 h => ?_)
        refine V_if_eq (tgt := 49) C d_X0_meetsFrom_44 (by decide) o6 h (fun h => ?_) (fun h => ?_)
        · skip
          refine V_iinc (j := 4) (lv' := [(4, iv_i (wr_i (x4 + 1))), (0, .ref (G.1 + x0)), (1, .ref (G.1 + x1)), (2, iv_i x2), (3, iv_i x3)]) C d_X0_meetsFrom_49 rfl (by decide) rfl ?_
          refine V_goto (tgt := 3) C d_X0_meetsFrom_52 (by decide) ?_
          refine V_lv [1, 2, 3, 4, 0] rfl (ih (wr_i (x4 + 1)) (ok_wr _) h)
        · skip
          refine V_iconst C d_X0_meetsFrom_47 ?_
          exact V_zret_r C hR d_X0_meetsFrom_48 (Or.inr rfl) h
      · skip
        refine V_iinc (j := 4) (lv' := [(4, iv_i (wr_i (x4 + 1))), (0, .ref (G.1 + x0)), (1, .ref (G.1 + x1)), (2, iv_i x2), (3, iv_i x3)]) C d_X0_meetsFrom_49 rfl (by decide) rfl ?_
        refine V_goto (tgt := 3) C d_X0_meetsFrom_52 (by decide) ?_
        refine V_lv [1, 2, 3, 4, 0] rfl (ih (wr_i (x4 + 1)) (ok_wr _) h)
    · skip
      refine V_iconst C d_X0_meetsFrom_55 ?_
      exact V_zret_r C hR d_X0_meetsFrom_56 (Or.inl rfl) h
set_option maxHeartbeats 4000000 in
set_option maxRecDepth 100000 in
theorem t_X0_meetsFrom {X : XT_x} {G : GT_g} {M : Mem_m} {z : Int} (C : Cx_ (K_X0_meetsFrom) X G) (hR : Rx_ X G (some .boolean)) (x0 : Nat) (x1 : Nat) (x2 : Int) (x3 : Int) (o_x2 : ok_i x2) (o_x3 : ok_i x3) (h : f_X0_meetsFrom G.2.2.2 M x0 x1 x2 x3 = some z) : V_ (K_X0_meetsFrom) X G (Fq_ X G (Qi_ G M z)) M 0 [(0, .ref (G.1 + x0)), (1, .ref (G.1 + x1)), (2, iv_i x2), (3, iv_i x3)] [] := by
  unfold f_X0_meetsFrom at h
  refine V_iconst C d_X0_meetsFrom_0 ?_
  refine V_istore (lv' := [(4, iv_i 0), (0, .ref (G.1 + x0)), (1, .ref (G.1 + x1)), (2, iv_i x2), (3, iv_i x3)]) C d_X0_meetsFrom_1 (by decide) rfl ?_
  refine V_lv [1, 2, 3, 4, 0] rfl (t_X0_meetsFrom_3 C hR M x0 x1 x2 x3 o_x2 o_x3 FU_ 0 (okc rfl) h)
set_option maxHeartbeats 4000000 in
set_option maxRecDepth 100000 in
theorem ct_X0_meetsFrom {l : Launch} {G : GT_g} {M : Mem_m} (x0 : Nat) (x1 : Nat) (x2 : Int) (x3 : Int) (o_x2 : ok_i x2) (o_x3 : ok_i x3) {z : Int} (h : f_X0_meetsFrom G.2.2.2 M x0 x1 x2 x3 = some z) : MI_ l yX0_meetsFrom K_X0_meetsFrom (some .boolean) G M [.ref (G.1 + x0), .ref (G.1 + x1), iv_i x2, iv_i x3] M z :=
  met_of (by decide +kernel) rfl (Nat.le_of_ble_eq_true rfl) (fun X hl C hR => by subst hl; exact t_X0_meetsFrom C hR x0 x1 x2 x3 o_x2 o_x3 h)
theorem d_X0_doMeet_0 : decode cX0_doMeet 0 = .ok (.iconst 0, 1) := by decide +kernel
theorem d_X0_doMeet_1 : decode cX0_doMeet 1 = .ok (.istore_n 3, 1) := by decide +kernel
theorem d_X0_doMeet_2 : decode cX0_doMeet 2 = .ok (.iload_n 3, 1) := by decide +kernel
theorem d_X0_doMeet_3 : decode cX0_doMeet 3 = .ok (.aload_n 0, 1) := by decide +kernel
theorem d_X0_doMeet_4 : decode cX0_doMeet 4 = .ok (.getfield 65, 3) := by decide +kernel
theorem d_X0_doMeet_7 : decode cX0_doMeet 7 = .ok (.if_icmp .ge 41, 3) := by decide +kernel
theorem d_X0_doMeet_10 : decode cX0_doMeet 10 = .ok (.aload_n 0, 1) := by decide +kernel
theorem d_X0_doMeet_11 : decode cX0_doMeet 11 = .ok (.getfield 23, 3) := by decide +kernel
theorem d_X0_doMeet_14 : decode cX0_doMeet 14 = .ok (.iload_n 3, 1) := by decide +kernel
theorem d_X0_doMeet_15 : decode cX0_doMeet 15 = .ok (.aaload, 1) := by decide +kernel
theorem d_X0_doMeet_16 : decode cX0_doMeet 16 = .ok (.invokevirtual 111, 3) := by decide +kernel
theorem d_X0_doMeet_19 : decode cX0_doMeet 19 = .ok (.ifCond .eq 23, 3) := by decide +kernel
theorem d_X0_doMeet_22 : decode cX0_doMeet 22 = .ok (.aload_n 0, 1) := by decide +kernel
theorem d_X0_doMeet_23 : decode cX0_doMeet 23 = .ok (.aload_n 0, 1) := by decide +kernel
theorem d_X0_doMeet_24 : decode cX0_doMeet 24 = .ok (.getfield 23, 3) := by decide +kernel
theorem d_X0_doMeet_27 : decode cX0_doMeet 27 = .ok (.iload_n 3, 1) := by decide +kernel
theorem d_X0_doMeet_28 : decode cX0_doMeet 28 = .ok (.aaload, 1) := by decide +kernel
theorem d_X0_doMeet_29 : decode cX0_doMeet 29 = .ok (.getfield 118, 3) := by decide +kernel
theorem d_X0_doMeet_32 : decode cX0_doMeet 32 = .ok (.iload_n 1, 1) := by decide +kernel
theorem d_X0_doMeet_33 : decode cX0_doMeet 33 = .ok (.iload_n 2, 1) := by decide +kernel
theorem d_X0_doMeet_34 : decode cX0_doMeet 34 = .ok (.invokevirtual 122, 3) := by decide +kernel
theorem d_X0_doMeet_37 : decode cX0_doMeet 37 = .ok (.ifCond .eq 5, 3) := by decide +kernel
theorem d_X0_doMeet_40 : decode cX0_doMeet 40 = .ok (.iconst 1, 1) := by decide +kernel
theorem d_X0_doMeet_41 : decode cX0_doMeet 41 = .ok (.ireturn, 1) := by decide +kernel
theorem d_X0_doMeet_42 : decode cX0_doMeet 42 = .ok (.iinc 3 1, 3) := by decide +kernel
theorem d_X0_doMeet_45 : decode cX0_doMeet 45 = .ok (.goto (-43), 3) := by decide +kernel
theorem d_X0_doMeet_48 : decode cX0_doMeet 48 = .ok (.iconst 0, 1) := by decide +kernel
theorem d_X0_doMeet_49 : decode cX0_doMeet 49 = .ok (.ireturn, 1) := by decide +kernel
set_option maxHeartbeats 4000000 in
set_option maxRecDepth 100000 in
theorem t_X0_doMeet_2 {X : XT_x} {G : GT_g} {z : Int} (C : Cx_ (K_X0_doMeet) X G) (hR : Rx_ X G (some .boolean)) (M : Mem_m) (x0 : Nat) (x1 : Int) (x2 : Int) (o_x1 : ok_i x1) (o_x2 : ok_i x2) : ∀ (n : Nat) (x3 : Int) (o_x3 : ok_i x3), f_X0_doMeet_2 G.2.2.2 M x0 x1 x2 n x3 = some z → V_ (K_X0_doMeet) X G (Fq_ X G (Qi_ G M z)) M 2 [(0, .ref (G.1 + x0)), (1, iv_i x1), (2, iv_i x2), (3, iv_i x3)] [] := by
  intro n
  induction n with
  | zero => intro x3 o_x3 h; exact absurd h (by simp [f_X0_doMeet_2])
  | succ n ih =>
    intro x3 o_x3 h
    unfold f_X0_doMeet_2 at h
    refine V_iload_n (j := 3) C d_X0_doMeet_2 rfl rfl ?_
    refine V_aload_n (j := 0) C d_X0_doMeet_3 rfl rfl ?_
    refine V_getI C ck_0 fw_X0_65 d_X0_doMeet_4 h (fun v1 o1 h => ?_)
    refine V_icmp_ge (tgt := 48) C d_X0_doMeet_7 (by decide) o_x3 o1 h (fun h => ?_) (fun h => ?_)
    · skip
      refine V_aload_n (j := 0) C d_X0_doMeet_10 rfl rfl ?_
      refine V_getR C ck_0 fw_X0_23 d_X0_doMeet_11 h (fun v2 h => ?_)
      refine V_iload_n (j := 3) C d_X0_doMeet_14 rfl rfl ?_
      refine V_aald (t := 0) C tc_0 d_X0_doMeet_15 o_x3 h (fun v3 h => ?_)
      refine V_callVri (K' := K_X1_isCounted) (a := v3) (ci := 1) (av := []) (rest := []) yi_X1_isCounted (by decide) rfl C (yk_X1_isCounted) l1_X0_111 (by decide) d_X0_doMeet_16 (fun v hv => ct_X1_isCounted v3 hv) rfl rfl (Nat.le_of_ble_eq_true rfl) h (fun v4 o4 h => ?_)
      refine V_if_eq (tgt := 42) C d_X0_doMeet_19 (by decide) o4 h (fun h => ?_) (fun h => ?_)
      · skip
        refine V_iinc (j := 3) (lv' := [(3, iv_i (wr_i (x3 + 1))), (0, .ref (G.1 + x0)), (1, iv_i x1), (2, iv_i x2)]) C d_X0_doMeet_42 rfl (by decide) rfl ?_
        refine V_goto (tgt := 2) C d_X0_doMeet_45 (by decide) ?_
        refine V_lv [1, 2, 3, 0] rfl (ih (wr_i (x3 + 1)) (ok_wr _) h)
      · skip
        refine V_aload_n (j := 0) C d_X0_doMeet_22 rfl rfl ?_
        refine V_aload_n (j := 0) C d_X0_doMeet_23 rfl rfl ?_
        refine V_getR C ck_0 fw_X0_23 d_X0_doMeet_24 h (fun v5 h => ?_)
        refine V_iload_n (j := 3) C d_X0_doMeet_27 rfl rfl ?_
        refine V_aald (t := 0) C tc_0 d_X0_doMeet_28 o_x3 h (fun v6 h => ?_)
        refine V_getR C ck_1 fw_X0_118 d_X0_doMeet_29 h (fun v7 h => ?_)
        refine V_iload_n (j := 1) C d_X0_doMeet_32 rfl rfl ?_
        refine V_iload_n (j := 2) C d_X0_doMeet_33 rfl rfl ?_
        refine V_callVri (K' := K_X0_meetsFrom) (a := x0) (ci := 0) (av := [.ref (G.1 + v7), iv_i x1, iv_i x2]) (rest := []) yi_X0_meetsFrom (by decide) rfl C (yk_X0_meetsFrom) l1_X0_122 (by decide) d_X0_doMeet_34 (fun v hv => ct_X0_meetsFrom x0 v7 x1 x2 o_x1 o_x2 hv) rfl rfl (Nat.le_of_ble_eq_true rfl) h (fun v8 o8 h => ?_)
        refine V_if_eq (tgt := 42) C d_X0_doMeet_37 (by decide) o8 h (fun h => ?_) (fun h => ?_)
        · skip
          refine V_iinc (j := 3) (lv' := [(3, iv_i (wr_i (x3 + 1))), (0, .ref (G.1 + x0)), (1, iv_i x1), (2, iv_i x2)]) C d_X0_doMeet_42 rfl (by decide) rfl ?_
          refine V_goto (tgt := 2) C d_X0_doMeet_45 (by decide) ?_
          refine V_lv [1, 2, 3, 0] rfl (ih (wr_i (x3 + 1)) (ok_wr _) h)
        · skip
          refine V_iconst C d_X0_doMeet_40 ?_
          exact V_zret_r C hR d_X0_doMeet_41 (Or.inr rfl) h
    · skip
      refine V_iconst C d_X0_doMeet_48 ?_
      exact V_zret_r C hR d_X0_doMeet_49 (Or.inl rfl) h
set_option maxHeartbeats 4000000 in
set_option maxRecDepth 100000 in
theorem t_X0_doMeet {X : XT_x} {G : GT_g} {M : Mem_m} {z : Int} (C : Cx_ (K_X0_doMeet) X G) (hR : Rx_ X G (some .boolean)) (x0 : Nat) (x1 : Int) (x2 : Int) (o_x1 : ok_i x1) (o_x2 : ok_i x2) (h : f_X0_doMeet G.2.2.2 M x0 x1 x2 = some z) : V_ (K_X0_doMeet) X G (Fq_ X G (Qi_ G M z)) M 0 [(0, .ref (G.1 + x0)), (1, iv_i x1), (2, iv_i x2)] [] := by
  unfold f_X0_doMeet at h
  refine V_iconst C d_X0_doMeet_0 ?_
  refine V_istore_n (lv' := [(3, iv_i 0), (0, .ref (G.1 + x0)), (1, iv_i x1), (2, iv_i x2)]) C d_X0_doMeet_1 rfl (by decide) rfl ?_
  refine V_lv [1, 2, 3, 0] rfl (t_X0_doMeet_2 C hR M x0 x1 x2 o_x1 o_x2 FU_ 0 (okc rfl) h)
set_option maxHeartbeats 4000000 in
set_option maxRecDepth 100000 in
theorem ct_X0_doMeet {l : Launch} {G : GT_g} {M : Mem_m} (x0 : Nat) (x1 : Int) (x2 : Int) (o_x1 : ok_i x1) (o_x2 : ok_i x2) {z : Int} (h : f_X0_doMeet G.2.2.2 M x0 x1 x2 = some z) : MI_ l yX0_doMeet K_X0_doMeet (some .boolean) G M [.ref (G.1 + x0), iv_i x1, iv_i x2] M z :=
  met_of (by decide +kernel) rfl (Nat.le_of_ble_eq_true rfl) (fun X hl C hR => by subst hl; exact t_X0_doMeet C hR x0 x1 x2 o_x1 o_x2 h)
theorem d_X5_lengthTold_0 : decode cX5_lengthTold 0 = .ok (.aload_n 0, 1) := by decide +kernel
theorem d_X5_lengthTold_1 : decode cX5_lengthTold 1 = .ok (.getfield 12, 3) := by decide +kernel
theorem d_X5_lengthTold_4 : decode cX5_lengthTold 4 = .ok (.getfield 36, 3) := by decide +kernel
theorem d_X5_lengthTold_7 : decode cX5_lengthTold 7 = .ok (.iconst 1, 1) := by decide +kernel
theorem d_X5_lengthTold_8 : decode cX5_lengthTold 8 = .ok (.iadd, 1) := by decide +kernel
theorem d_X5_lengthTold_9 : decode cX5_lengthTold 9 = .ok (.istore_n 1, 1) := by decide +kernel
theorem d_X5_lengthTold_10 : decode cX5_lengthTold 10 = .ok (.aload_n 0, 1) := by decide +kernel
theorem d_X5_lengthTold_11 : decode cX5_lengthTold 11 = .ok (.getfield 25, 3) := by decide +kernel
theorem d_X5_lengthTold_14 : decode cX5_lengthTold 14 = .ok (.tableswitch 46 1 4 #[30, 46, 34, 40], 30) := by decide +kernel
theorem d_X5_lengthTold_44 : decode cX5_lengthTold 44 = .ok (.iload_n 1, 1) := by decide +kernel
theorem d_X5_lengthTold_45 : decode cX5_lengthTold 45 = .ok (.iconst 2, 1) := by decide +kernel
theorem d_X5_lengthTold_46 : decode cX5_lengthTold 46 = .ok (.iadd, 1) := by decide +kernel
theorem d_X5_lengthTold_47 : decode cX5_lengthTold 47 = .ok (.ireturn, 1) := by decide +kernel
theorem d_X5_lengthTold_48 : decode cX5_lengthTold 48 = .ok (.iconst 2, 1) := by decide +kernel
theorem d_X5_lengthTold_49 : decode cX5_lengthTold 49 = .ok (.iload_n 1, 1) := by decide +kernel
theorem d_X5_lengthTold_50 : decode cX5_lengthTold 50 = .ok (.imul, 1) := by decide +kernel
theorem d_X5_lengthTold_51 : decode cX5_lengthTold 51 = .ok (.iconst 1, 1) := by decide +kernel
theorem d_X5_lengthTold_52 : decode cX5_lengthTold 52 = .ok (.isub, 1) := by decide +kernel
theorem d_X5_lengthTold_53 : decode cX5_lengthTold 53 = .ok (.ireturn, 1) := by decide +kernel
theorem d_X5_lengthTold_54 : decode cX5_lengthTold 54 = .ok (.iload_n 1, 1) := by decide +kernel
theorem d_X5_lengthTold_55 : decode cX5_lengthTold 55 = .ok (.iconst 2, 1) := by decide +kernel
theorem d_X5_lengthTold_56 : decode cX5_lengthTold 56 = .ok (.iadd, 1) := by decide +kernel
theorem d_X5_lengthTold_57 : decode cX5_lengthTold 57 = .ok (.iconst 3, 1) := by decide +kernel
theorem d_X5_lengthTold_58 : decode cX5_lengthTold 58 = .ok (.iadd, 1) := by decide +kernel
theorem d_X5_lengthTold_59 : decode cX5_lengthTold 59 = .ok (.ireturn, 1) := by decide +kernel
theorem d_X5_lengthTold_60 : decode cX5_lengthTold 60 = .ok (.iload_n 1, 1) := by decide +kernel
theorem d_X5_lengthTold_61 : decode cX5_lengthTold 61 = .ok (.ireturn, 1) := by decide +kernel
set_option maxHeartbeats 4000000 in
set_option maxRecDepth 100000 in
theorem t_X5_lengthTold {X : XT_x} {G : GT_g} {M : Mem_m} {z : Int} (C : Cx_ (K_X5_lengthTold) X G) (hR : Rx_ X G (some .int)) (x0 : Nat)  (h : f_X5_lengthTold G.2.2.2 M x0 = some z) : V_ (K_X5_lengthTold) X G (Fq_ X G (Qi_ G M z)) M 0 [(0, .ref (G.1 + x0))] [] := by
  unfold f_X5_lengthTold at h
  refine V_aload_n (j := 0) C d_X5_lengthTold_0 rfl rfl ?_
  refine V_getR C ck_5 fw_X5_12 d_X5_lengthTold_1 h (fun v1 h => ?_)
  refine V_getI C ck_10 fw_X5_36 d_X5_lengthTold_4 h (fun v2 o2 h => ?_)
  refine V_iconst C d_X5_lengthTold_7 ?_
  refine V_iadd C d_X5_lengthTold_8 ?_
  refine V_istore_n (lv' := [(1, iv_i (wr_i (v2 + 1))), (0, .ref (G.1 + x0))]) C d_X5_lengthTold_9 rfl (by decide) rfl ?_
  refine V_aload_n (j := 1) C d_X5_lengthTold_10 rfl rfl ?_
  refine V_getI C ck_5 fw_X5_25 d_X5_lengthTold_11 h (fun v3 o3 h => ?_)
  refine V_eqs h (fun e4 h => ?_) (fun e4 h => ?_)
  · skip
    refine V_tabIn (tgt := 44) C d_X5_lengthTold_14 o3 (by omega) (by omega) (by rw [e4]; rfl) (by decide) ?_
    refine V_iload_n (j := 0) C d_X5_lengthTold_44 rfl rfl ?_
    refine V_iconst C d_X5_lengthTold_45 ?_
    refine V_iadd C d_X5_lengthTold_46 ?_
    exact V_iret_r C hR d_X5_lengthTold_47 (ok_wr _) h
  refine V_eqs h (fun e5 h => ?_) (fun e5 h => ?_)
  · skip
    refine V_tabIn (tgt := 60) C d_X5_lengthTold_14 o3 (by omega) (by omega) (by rw [e5]; rfl) (by decide) ?_
    refine V_iload_n (j := 0) C d_X5_lengthTold_60 rfl rfl ?_
    exact V_iret_r C hR d_X5_lengthTold_61 (ok_wr _) h
  refine V_eqs h (fun e6 h => ?_) (fun e6 h => ?_)
  · skip
    refine V_tabIn (tgt := 48) C d_X5_lengthTold_14 o3 (by omega) (by omega) (by rw [e6]; rfl) (by decide) ?_
    refine V_iconst C d_X5_lengthTold_48 ?_
    refine V_iload_n (j := 0) C d_X5_lengthTold_49 rfl rfl ?_
    refine V_imul C d_X5_lengthTold_50 ?_
    refine V_iconst C d_X5_lengthTold_51 ?_
    refine V_isub C d_X5_lengthTold_52 ?_
    exact V_iret_r C hR d_X5_lengthTold_53 (ok_wr _) h
  refine V_eqs h (fun e7 h => ?_) (fun e7 h => ?_)
  · skip
    refine V_tabIn (tgt := 54) C d_X5_lengthTold_14 o3 (by omega) (by omega) (by rw [e7]; rfl) (by decide) ?_
    refine V_iload_n (j := 0) C d_X5_lengthTold_54 rfl rfl ?_
    refine V_iconst C d_X5_lengthTold_55 ?_
    refine V_iadd C d_X5_lengthTold_56 ?_
    refine V_iconst C d_X5_lengthTold_57 ?_
    refine V_iadd C d_X5_lengthTold_58 ?_
    exact V_iret_r C hR d_X5_lengthTold_59 (ok_wr _) h
  refine V_tabOut (tgt := 60) C d_X5_lengthTold_14 o3 (by omega) (by decide) ?_
  refine V_iload_n (j := 0) C d_X5_lengthTold_60 rfl rfl ?_
  exact V_iret_r C hR d_X5_lengthTold_61 (ok_wr _) h
set_option maxHeartbeats 4000000 in
set_option maxRecDepth 100000 in
theorem ct_X5_lengthTold {l : Launch} {G : GT_g} {M : Mem_m} (x0 : Nat)  {z : Int} (h : f_X5_lengthTold G.2.2.2 M x0 = some z) : MI_ l yX5_lengthTold K_X5_lengthTold (some .int) G M [.ref (G.1 + x0)] M z :=
  met_of (by decide +kernel) rfl (Nat.le_of_ble_eq_true rfl) (fun X hl C hR => by subst hl; exact t_X5_lengthTold C hR x0  h)
theorem d_X0_lengthsOf_0 : decode cX0_lengthsOf 0 = .ok (.iconst 0, 1) := by decide +kernel
theorem d_X0_lengthsOf_1 : decode cX0_lengthsOf 1 = .ok (.istore_n 2, 1) := by decide +kernel
theorem d_X0_lengthsOf_2 : decode cX0_lengthsOf 2 = .ok (.iconst 0, 1) := by decide +kernel
theorem d_X0_lengthsOf_3 : decode cX0_lengthsOf 3 = .ok (.istore_n 3, 1) := by decide +kernel
theorem d_X0_lengthsOf_4 : decode cX0_lengthsOf 4 = .ok (.iload_n 3, 1) := by decide +kernel
theorem d_X0_lengthsOf_5 : decode cX0_lengthsOf 5 = .ok (.aload_n 0, 1) := by decide +kernel
theorem d_X0_lengthsOf_6 : decode cX0_lengthsOf 6 = .ok (.getfield 76, 3) := by decide +kernel
theorem d_X0_lengthsOf_9 : decode cX0_lengthsOf 9 = .ok (.if_icmp .ge 30, 3) := by decide +kernel
theorem d_X0_lengthsOf_12 : decode cX0_lengthsOf 12 = .ok (.iload_n 1, 1) := by decide +kernel
theorem d_X0_lengthsOf_13 : decode cX0_lengthsOf 13 = .ok (.iload_n 3, 1) := by decide +kernel
theorem d_X0_lengthsOf_14 : decode cX0_lengthsOf 14 = .ok (.ishr, 1) := by decide +kernel
theorem d_X0_lengthsOf_15 : decode cX0_lengthsOf 15 = .ok (.iconst 1, 1) := by decide +kernel
theorem d_X0_lengthsOf_16 : decode cX0_lengthsOf 16 = .ok (.iand, 1) := by decide +kernel
theorem d_X0_lengthsOf_17 : decode cX0_lengthsOf 17 = .ok (.iconst 1, 1) := by decide +kernel
theorem d_X0_lengthsOf_18 : decode cX0_lengthsOf 18 = .ok (.if_icmp .ne 15, 3) := by decide +kernel
theorem d_X0_lengthsOf_21 : decode cX0_lengthsOf 21 = .ok (.iload_n 2, 1) := by decide +kernel
theorem d_X0_lengthsOf_22 : decode cX0_lengthsOf 22 = .ok (.aload_n 0, 1) := by decide +kernel
theorem d_X0_lengthsOf_23 : decode cX0_lengthsOf 23 = .ok (.getfield 29, 3) := by decide +kernel
theorem d_X0_lengthsOf_26 : decode cX0_lengthsOf 26 = .ok (.iload_n 3, 1) := by decide +kernel
theorem d_X0_lengthsOf_27 : decode cX0_lengthsOf 27 = .ok (.aaload, 1) := by decide +kernel
theorem d_X0_lengthsOf_28 : decode cX0_lengthsOf 28 = .ok (.invokevirtual 140, 3) := by decide +kernel
theorem d_X0_lengthsOf_31 : decode cX0_lengthsOf 31 = .ok (.iadd, 1) := by decide +kernel
theorem d_X0_lengthsOf_32 : decode cX0_lengthsOf 32 = .ok (.istore_n 2, 1) := by decide +kernel
theorem d_X0_lengthsOf_33 : decode cX0_lengthsOf 33 = .ok (.iinc 3 1, 3) := by decide +kernel
theorem d_X0_lengthsOf_36 : decode cX0_lengthsOf 36 = .ok (.goto (-32), 3) := by decide +kernel
theorem d_X0_lengthsOf_39 : decode cX0_lengthsOf 39 = .ok (.iload_n 2, 1) := by decide +kernel
theorem d_X0_lengthsOf_40 : decode cX0_lengthsOf 40 = .ok (.ireturn, 1) := by decide +kernel
set_option maxHeartbeats 4000000 in
set_option maxRecDepth 100000 in
theorem t_X0_lengthsOf_4 {X : XT_x} {G : GT_g} {z : Int} (C : Cx_ (K_X0_lengthsOf) X G) (hR : Rx_ X G (some .int)) (M : Mem_m) (x0 : Nat) (x1 : Int) (o_x1 : ok_i x1) : ∀ (n : Nat) (x2 : Int) (x3 : Int) (o_x2 : ok_i x2) (o_x3 : ok_i x3), f_X0_lengthsOf_4 G.2.2.2 M x0 x1 n x2 x3 = some z → V_ (K_X0_lengthsOf) X G (Fq_ X G (Qi_ G M z)) M 4 [(0, .ref (G.1 + x0)), (1, iv_i x1), (2, iv_i x2), (3, iv_i x3)] [] := by
  intro n
  induction n with
  | zero => intro x2 x3 o_x2 o_x3 h; exact absurd h (by simp [f_X0_lengthsOf_4])
  | succ n ih =>
    intro x2 x3 o_x2 o_x3 h
    unfold f_X0_lengthsOf_4 at h
    refine V_iload_n (j := 3) C d_X0_lengthsOf_4 rfl rfl ?_
    refine V_aload_n (j := 0) C d_X0_lengthsOf_5 rfl rfl ?_
    refine V_getI C ck_0 fw_X0_76 d_X0_lengthsOf_6 h (fun v1 o1 h => ?_)
    refine V_icmp_ge (tgt := 39) C d_X0_lengthsOf_9 (by decide) o_x3 o1 h (fun h => ?_) (fun h => ?_)
    · skip
      refine V_iload_n (j := 1) C d_X0_lengthsOf_12 rfl rfl ?_
      refine V_iload_n (j := 3) C d_X0_lengthsOf_13 rfl rfl ?_
      refine V_ishr C d_X0_lengthsOf_14 ?_
      refine V_iconst C d_X0_lengthsOf_15 ?_
      refine V_iand C d_X0_lengthsOf_16 ?_
      refine V_iconst C d_X0_lengthsOf_17 ?_
      refine V_icmp_ne (tgt := 33) C d_X0_lengthsOf_18 (by decide) (ok_I _) (okc rfl) h (fun h => ?_) (fun h => ?_)
      · skip
        refine V_iload_n (j := 2) C d_X0_lengthsOf_21 rfl rfl ?_
        refine V_aload_n (j := 0) C d_X0_lengthsOf_22 rfl rfl ?_
        refine V_getR C ck_0 fw_X0_29 d_X0_lengthsOf_23 h (fun v2 h => ?_)
        refine V_iload_n (j := 3) C d_X0_lengthsOf_26 rfl rfl ?_
        refine V_aald (t := 1) C tc_1 d_X0_lengthsOf_27 o_x3 h (fun v3 h => ?_)
        refine V_callVri (K' := K_X5_lengthTold) (a := v3) (ci := 5) (av := []) (rest := [iv_i x2]) yi_X5_lengthTold (by decide) rfl C (yk_X5_lengthTold) l1_X0_140 (by decide) d_X0_lengthsOf_28 (fun v hv => ct_X5_lengthTold v3 hv) rfl rfl (Nat.le_of_ble_eq_true rfl) h (fun v4 o4 h => ?_)
        refine V_iadd C d_X0_lengthsOf_31 ?_
        refine V_istore_n (lv' := [(2, iv_i (wr_i (x2 + v4))), (0, .ref (G.1 + x0)), (1, iv_i x1), (3, iv_i x3)]) C d_X0_lengthsOf_32 rfl (by decide) rfl ?_
        refine V_iinc (j := 3) (lv' := [(3, iv_i (wr_i (x3 + 1))), (2, iv_i (wr_i (x2 + v4))), (0, .ref (G.1 + x0)), (1, iv_i x1)]) C d_X0_lengthsOf_33 rfl (by decide) rfl ?_
        refine V_goto (tgt := 4) C d_X0_lengthsOf_36 (by decide) ?_
        refine V_lv [2, 3, 1, 0] rfl (ih (wr_i (x2 + v4)) (wr_i (x3 + 1)) (ok_wr _) (ok_wr _) h)
      · skip
        refine V_iinc (j := 3) (lv' := [(3, iv_i (wr_i (x3 + 1))), (0, .ref (G.1 + x0)), (1, iv_i x1), (2, iv_i x2)]) C d_X0_lengthsOf_33 rfl (by decide) rfl ?_
        refine V_goto (tgt := 4) C d_X0_lengthsOf_36 (by decide) ?_
        refine V_lv [1, 2, 3, 0] rfl (ih x2 (wr_i (x3 + 1)) o_x2 (ok_wr _) h)
    · skip
      refine V_iload_n (j := 2) C d_X0_lengthsOf_39 rfl rfl ?_
      exact V_iret_r C hR d_X0_lengthsOf_40 o_x2 h
set_option maxHeartbeats 4000000 in
set_option maxRecDepth 100000 in
theorem t_X0_lengthsOf {X : XT_x} {G : GT_g} {M : Mem_m} {z : Int} (C : Cx_ (K_X0_lengthsOf) X G) (hR : Rx_ X G (some .int)) (x0 : Nat) (x1 : Int) (o_x1 : ok_i x1) (h : f_X0_lengthsOf G.2.2.2 M x0 x1 = some z) : V_ (K_X0_lengthsOf) X G (Fq_ X G (Qi_ G M z)) M 0 [(0, .ref (G.1 + x0)), (1, iv_i x1)] [] := by
  unfold f_X0_lengthsOf at h
  refine V_iconst C d_X0_lengthsOf_0 ?_
  refine V_istore_n (lv' := [(2, iv_i 0), (0, .ref (G.1 + x0)), (1, iv_i x1)]) C d_X0_lengthsOf_1 rfl (by decide) rfl ?_
  refine V_iconst C d_X0_lengthsOf_2 ?_
  refine V_istore_n (lv' := [(3, iv_i 0), (2, iv_i 0), (0, .ref (G.1 + x0)), (1, iv_i x1)]) C d_X0_lengthsOf_3 rfl (by decide) rfl ?_
  refine V_lv [2, 3, 1, 0] rfl (t_X0_lengthsOf_4 C hR M x0 x1 o_x1 FU_ 0 0 (okc rfl) (okc rfl) h)
set_option maxHeartbeats 4000000 in
set_option maxRecDepth 100000 in
theorem ct_X0_lengthsOf {l : Launch} {G : GT_g} {M : Mem_m} (x0 : Nat) (x1 : Int) (o_x1 : ok_i x1) {z : Int} (h : f_X0_lengthsOf G.2.2.2 M x0 x1 = some z) : MI_ l yX0_lengthsOf K_X0_lengthsOf (some .int) G M [.ref (G.1 + x0), iv_i x1] M z :=
  met_of (by decide +kernel) rfl (Nat.le_of_ble_eq_true rfl) (fun X hl C hR => by subst hl; exact t_X0_lengthsOf C hR x0 x1 o_x1 h)
theorem d_X0_leftBy_0 : decode cX0_leftBy 0 = .ok (.iload_n 2, 1) := by decide +kernel
theorem d_X0_leftBy_1 : decode cX0_leftBy 1 = .ok (.iconst (-1), 1) := by decide +kernel
theorem d_X0_leftBy_2 : decode cX0_leftBy 2 = .ok (.if_icmp .eq 21, 3) := by decide +kernel
theorem d_X0_leftBy_5 : decode cX0_leftBy 5 = .ok (.aload_n 0, 1) := by decide +kernel
theorem d_X0_leftBy_6 : decode cX0_leftBy 6 = .ok (.getfield 15, 3) := by decide +kernel
theorem d_X0_leftBy_9 : decode cX0_leftBy 9 = .ok (.aload_n 0, 1) := by decide +kernel
theorem d_X0_leftBy_10 : decode cX0_leftBy 10 = .ok (.getfield 41, 3) := by decide +kernel
theorem d_X0_leftBy_13 : decode cX0_leftBy 13 = .ok (.iload_n 1, 1) := by decide +kernel
theorem d_X0_leftBy_14 : decode cX0_leftBy 14 = .ok (.aaload, 1) := by decide +kernel
theorem d_X0_leftBy_15 : decode cX0_leftBy 15 = .ok (.getfield 151, 3) := by decide +kernel
theorem d_X0_leftBy_18 : decode cX0_leftBy 18 = .ok (.iaload, 1) := by decide +kernel
theorem d_X0_leftBy_19 : decode cX0_leftBy 19 = .ok (.iload_n 2, 1) := by decide +kernel
theorem d_X0_leftBy_20 : decode cX0_leftBy 20 = .ok (.if_icmp .ne 7, 3) := by decide +kernel
theorem d_X0_leftBy_23 : decode cX0_leftBy 23 = .ok (.iconst 1, 1) := by decide +kernel
theorem d_X0_leftBy_24 : decode cX0_leftBy 24 = .ok (.goto 4, 3) := by decide +kernel
theorem d_X0_leftBy_27 : decode cX0_leftBy 27 = .ok (.iconst 0, 1) := by decide +kernel
theorem d_X0_leftBy_28 : decode cX0_leftBy 28 = .ok (.istore_n 3, 1) := by decide +kernel
theorem d_X0_leftBy_29 : decode cX0_leftBy 29 = .ok (.iload_n 3, 1) := by decide +kernel
theorem d_X0_leftBy_30 : decode cX0_leftBy 30 = .ok (.ifCond .eq 15, 3) := by decide +kernel
theorem d_X0_leftBy_33 : decode cX0_leftBy 33 = .ok (.aload_n 0, 1) := by decide +kernel
theorem d_X0_leftBy_34 : decode cX0_leftBy 34 = .ok (.getfield 41, 3) := by decide +kernel
theorem d_X0_leftBy_37 : decode cX0_leftBy 37 = .ok (.iload_n 1, 1) := by decide +kernel
theorem d_X0_leftBy_38 : decode cX0_leftBy 38 = .ok (.aaload, 1) := by decide +kernel
theorem d_X0_leftBy_39 : decode cX0_leftBy 39 = .ok (.getfield 154, 3) := by decide +kernel
theorem d_X0_leftBy_42 : decode cX0_leftBy 42 = .ok (.goto 5, 3) := by decide +kernel
theorem d_X0_leftBy_45 : decode cX0_leftBy 45 = .ok (.ldc 146, 2) := by decide +kernel
theorem d_X0_leftBy_47 : decode cX0_leftBy 47 = .ok (.ireturn, 1) := by decide +kernel
set_option maxHeartbeats 4000000 in
set_option maxRecDepth 100000 in
theorem t_X0_leftBy_28 {X : XT_x} {G : GT_g} {z : Int} (C : Cx_ (K_X0_leftBy) X G) (hR : Rx_ X G (some .int)) (M : Mem_m) (x0 : Nat) (x1 : Int) (s0 : Int) (o_x1 : ok_i x1) (o_s0 : ok_i s0) (h : f_X0_leftBy_28 G.2.2.2 M x0 x1 s0 = some z) : V_ (K_X0_leftBy) X G (Fq_ X G (Qi_ G M z)) M 28 [(0, .ref (G.1 + x0)), (1, iv_i x1)] [iv_i s0] := by
  unfold f_X0_leftBy_28 at h
  refine V_istore_n (lv' := [(3, iv_i s0), (0, .ref (G.1 + x0)), (1, iv_i x1)]) C d_X0_leftBy_28 rfl (by decide) rfl ?_
  refine V_iload_n (j := 0) C d_X0_leftBy_29 rfl rfl ?_
  refine V_if_eq (tgt := 45) C d_X0_leftBy_30 (by decide) o_s0 h (fun h => ?_) (fun h => ?_)
  · skip
    refine V_ldc (v := 16777215) C d_X0_leftBy_45 cn_X0_146 ?_
    exact V_iret_r C hR d_X0_leftBy_47 (okc rfl) h
  · skip
    refine V_aload_n (j := 1) C d_X0_leftBy_33 rfl rfl ?_
    refine V_getR C ck_0 fw_X0_41 d_X0_leftBy_34 h (fun v1 h => ?_)
    refine V_iload_n (j := 2) C d_X0_leftBy_37 rfl rfl ?_
    refine V_aald (t := 3) C tc_3 d_X0_leftBy_38 o_x1 h (fun v2 h => ?_)
    refine V_getI C ck_8 fw_X0_154 d_X0_leftBy_39 h (fun v3 o3 h => ?_)
    refine V_goto (tgt := 47) C d_X0_leftBy_42 (by decide) ?_
    exact V_iret_r C hR d_X0_leftBy_47 o3 h
set_option maxHeartbeats 4000000 in
set_option maxRecDepth 100000 in
theorem t_X0_leftBy_23 {X : XT_x} {G : GT_g} {z : Int} (C : Cx_ (K_X0_leftBy) X G) (hR : Rx_ X G (some .int)) (M : Mem_m) (x0 : Nat) (x1 : Int) (o_x1 : ok_i x1) (h : f_X0_leftBy_23 G.2.2.2 M x0 x1 = some z) : V_ (K_X0_leftBy) X G (Fq_ X G (Qi_ G M z)) M 23 [(0, .ref (G.1 + x0)), (1, iv_i x1)] [] := by
  unfold f_X0_leftBy_23 at h
  refine V_iconst C d_X0_leftBy_23 ?_
  refine V_goto (tgt := 28) C d_X0_leftBy_24 (by decide) ?_
  refine V_lv [0, 1] rfl (t_X0_leftBy_28 C hR M x0 x1 1 o_x1 (okc rfl) h)
set_option maxHeartbeats 4000000 in
set_option maxRecDepth 100000 in
theorem t_X0_leftBy {X : XT_x} {G : GT_g} {M : Mem_m} {z : Int} (C : Cx_ (K_X0_leftBy) X G) (hR : Rx_ X G (some .int)) (x0 : Nat) (x1 : Int) (x2 : Int) (o_x1 : ok_i x1) (o_x2 : ok_i x2) (h : f_X0_leftBy G.2.2.2 M x0 x1 x2 = some z) : V_ (K_X0_leftBy) X G (Fq_ X G (Qi_ G M z)) M 0 [(0, .ref (G.1 + x0)), (1, iv_i x1), (2, iv_i x2)] [] := by
  unfold f_X0_leftBy at h
  refine V_iload_n (j := 2) C d_X0_leftBy_0 rfl rfl ?_
  refine V_iconst C d_X0_leftBy_1 ?_
  refine V_icmp_eq (tgt := 23) C d_X0_leftBy_2 (by decide) o_x2 (okc rfl) h (fun h => ?_) (fun h => ?_)
  · skip
    refine V_lv [0, 1] rfl (t_X0_leftBy_23 C hR M x0 x1 o_x1 h)
  · skip
    refine V_aload_n (j := 0) C d_X0_leftBy_5 rfl rfl ?_
    refine V_getR C ck_0 fw_X0_15 d_X0_leftBy_6 h (fun v1 h => ?_)
    refine V_aload_n (j := 0) C d_X0_leftBy_9 rfl rfl ?_
    refine V_getR C ck_0 fw_X0_41 d_X0_leftBy_10 h (fun v2 h => ?_)
    refine V_iload_n (j := 1) C d_X0_leftBy_13 rfl rfl ?_
    refine V_aald (t := 3) C tc_3 d_X0_leftBy_14 o_x1 h (fun v3 h => ?_)
    refine V_getI C ck_8 fw_X0_151 d_X0_leftBy_15 h (fun v4 o4 h => ?_)
    refine V_iald C d_X0_leftBy_18 o4 h (fun v5 o5 h => ?_)
    refine V_iload_n (j := 2) C d_X0_leftBy_19 rfl rfl ?_
    refine V_icmp_ne (tgt := 27) C d_X0_leftBy_20 (by decide) o5 o_x2 h (fun h => ?_) (fun h => ?_)
    · skip
      refine V_lv [0, 1] rfl (t_X0_leftBy_23 C hR M x0 x1 o_x1 h)
    · skip
      refine V_iconst C d_X0_leftBy_27 ?_
      refine V_lv [0, 1] rfl (t_X0_leftBy_28 C hR M x0 x1 0 o_x1 (okc rfl) h)
set_option maxHeartbeats 4000000 in
set_option maxRecDepth 100000 in
theorem ct_X0_leftBy {l : Launch} {G : GT_g} {M : Mem_m} (x0 : Nat) (x1 : Int) (x2 : Int) (o_x1 : ok_i x1) (o_x2 : ok_i x2) {z : Int} (h : f_X0_leftBy G.2.2.2 M x0 x1 x2 = some z) : MI_ l yX0_leftBy K_X0_leftBy (some .int) G M [.ref (G.1 + x0), iv_i x1, iv_i x2] M z :=
  met_of (by decide +kernel) rfl (Nat.le_of_ble_eq_true rfl) (fun X hl C hR => by subst hl; exact t_X0_leftBy C hR x0 x1 x2 o_x1 o_x2 h)
theorem d_X0_setOfOrders_0 : decode cX0_setOfOrders 0 = .ok (.ldc 146, 2) := by decide +kernel
theorem d_X0_setOfOrders_2 : decode cX0_setOfOrders 2 = .ok (.istore_n 2, 1) := by decide +kernel
theorem d_X0_setOfOrders_3 : decode cX0_setOfOrders 3 = .ok (.iconst 0, 1) := by decide +kernel
theorem d_X0_setOfOrders_4 : decode cX0_setOfOrders 4 = .ok (.istore_n 3, 1) := by decide +kernel
theorem d_X0_setOfOrders_5 : decode cX0_setOfOrders 5 = .ok (.iload_n 3, 1) := by decide +kernel
theorem d_X0_setOfOrders_6 : decode cX0_setOfOrders 6 = .ok (.aload_n 0, 1) := by decide +kernel
theorem d_X0_setOfOrders_7 : decode cX0_setOfOrders 7 = .ok (.getfield 88, 3) := by decide +kernel
theorem d_X0_setOfOrders_10 : decode cX0_setOfOrders 10 = .ok (.if_icmp .ge 18, 3) := by decide +kernel
theorem d_X0_setOfOrders_13 : decode cX0_setOfOrders 13 = .ok (.iload_n 2, 1) := by decide +kernel
theorem d_X0_setOfOrders_14 : decode cX0_setOfOrders 14 = .ok (.aload_n 0, 1) := by decide +kernel
theorem d_X0_setOfOrders_15 : decode cX0_setOfOrders 15 = .ok (.iload_n 3, 1) := by decide +kernel
theorem d_X0_setOfOrders_16 : decode cX0_setOfOrders 16 = .ok (.iload_n 1, 1) := by decide +kernel
theorem d_X0_setOfOrders_17 : decode cX0_setOfOrders 17 = .ok (.invokevirtual 147, 3) := by decide +kernel
theorem d_X0_setOfOrders_20 : decode cX0_setOfOrders 20 = .ok (.iand, 1) := by decide +kernel
theorem d_X0_setOfOrders_21 : decode cX0_setOfOrders 21 = .ok (.istore_n 2, 1) := by decide +kernel
theorem d_X0_setOfOrders_22 : decode cX0_setOfOrders 22 = .ok (.iinc 3 1, 3) := by decide +kernel
theorem d_X0_setOfOrders_25 : decode cX0_setOfOrders 25 = .ok (.goto (-20), 3) := by decide +kernel
theorem d_X0_setOfOrders_28 : decode cX0_setOfOrders 28 = .ok (.iload_n 2, 1) := by decide +kernel
theorem d_X0_setOfOrders_29 : decode cX0_setOfOrders 29 = .ok (.ireturn, 1) := by decide +kernel
set_option maxHeartbeats 4000000 in
set_option maxRecDepth 100000 in
theorem t_X0_setOfOrders_5 {X : XT_x} {G : GT_g} {z : Int} (C : Cx_ (K_X0_setOfOrders) X G) (hR : Rx_ X G (some .int)) (M : Mem_m) (x0 : Nat) (x1 : Int) (o_x1 : ok_i x1) : ∀ (n : Nat) (x2 : Int) (x3 : Int) (o_x2 : ok_i x2) (o_x3 : ok_i x3), f_X0_setOfOrders_5 G.2.2.2 M x0 x1 n x2 x3 = some z → V_ (K_X0_setOfOrders) X G (Fq_ X G (Qi_ G M z)) M 5 [(0, .ref (G.1 + x0)), (1, iv_i x1), (2, iv_i x2), (3, iv_i x3)] [] := by
  intro n
  induction n with
  | zero => intro x2 x3 o_x2 o_x3 h; exact absurd h (by simp [f_X0_setOfOrders_5])
  | succ n ih =>
    intro x2 x3 o_x2 o_x3 h
    unfold f_X0_setOfOrders_5 at h
    refine V_iload_n (j := 3) C d_X0_setOfOrders_5 rfl rfl ?_
    refine V_aload_n (j := 0) C d_X0_setOfOrders_6 rfl rfl ?_
    refine V_getI C ck_0 fw_X0_88 d_X0_setOfOrders_7 h (fun v1 o1 h => ?_)
    refine V_icmp_ge (tgt := 28) C d_X0_setOfOrders_10 (by decide) o_x3 o1 h (fun h => ?_) (fun h => ?_)
    · skip
      refine V_iload_n (j := 2) C d_X0_setOfOrders_13 rfl rfl ?_
      refine V_aload_n (j := 0) C d_X0_setOfOrders_14 rfl rfl ?_
      refine V_iload_n (j := 3) C d_X0_setOfOrders_15 rfl rfl ?_
      refine V_iload_n (j := 1) C d_X0_setOfOrders_16 rfl rfl ?_
      refine V_callVri (K' := K_X0_leftBy) (a := x0) (ci := 0) (av := [iv_i x3, iv_i x1]) (rest := [iv_i x2]) yi_X0_leftBy (by decide) rfl C (yk_X0_leftBy) l1_X0_147 (by decide) d_X0_setOfOrders_17 (fun v hv => ct_X0_leftBy x0 x3 x1 o_x3 o_x1 hv) rfl rfl (Nat.le_of_ble_eq_true rfl) h (fun v2 o2 h => ?_)
      refine V_iand C d_X0_setOfOrders_20 ?_
      refine V_istore_n (lv' := [(2, iv_i (an_i x2 v2)), (0, .ref (G.1 + x0)), (1, iv_i x1), (3, iv_i x3)]) C d_X0_setOfOrders_21 rfl (by decide) rfl ?_
      refine V_iinc (j := 3) (lv' := [(3, iv_i (wr_i (x3 + 1))), (2, iv_i (an_i x2 v2)), (0, .ref (G.1 + x0)), (1, iv_i x1)]) C d_X0_setOfOrders_22 rfl (by decide) rfl ?_
      refine V_goto (tgt := 5) C d_X0_setOfOrders_25 (by decide) ?_
      refine V_lv [2, 3, 1, 0] rfl (ih (an_i x2 v2) (wr_i (x3 + 1)) (ok_I _) (ok_wr _) h)
    · skip
      refine V_iload_n (j := 2) C d_X0_setOfOrders_28 rfl rfl ?_
      exact V_iret_r C hR d_X0_setOfOrders_29 o_x2 h
set_option maxHeartbeats 4000000 in
set_option maxRecDepth 100000 in
theorem t_X0_setOfOrders {X : XT_x} {G : GT_g} {M : Mem_m} {z : Int} (C : Cx_ (K_X0_setOfOrders) X G) (hR : Rx_ X G (some .int)) (x0 : Nat) (x1 : Int) (o_x1 : ok_i x1) (h : f_X0_setOfOrders G.2.2.2 M x0 x1 = some z) : V_ (K_X0_setOfOrders) X G (Fq_ X G (Qi_ G M z)) M 0 [(0, .ref (G.1 + x0)), (1, iv_i x1)] [] := by
  unfold f_X0_setOfOrders at h
  refine V_ldc (v := 16777215) C d_X0_setOfOrders_0 cn_X0_146 ?_
  refine V_istore_n (lv' := [(2, iv_i 16777215), (0, .ref (G.1 + x0)), (1, iv_i x1)]) C d_X0_setOfOrders_2 rfl (by decide) rfl ?_
  refine V_iconst C d_X0_setOfOrders_3 ?_
  refine V_istore_n (lv' := [(3, iv_i 0), (2, iv_i 16777215), (0, .ref (G.1 + x0)), (1, iv_i x1)]) C d_X0_setOfOrders_4 rfl (by decide) rfl ?_
  refine V_lv [2, 3, 1, 0] rfl (t_X0_setOfOrders_5 C hR M x0 x1 o_x1 FU_ 16777215 0 (okc rfl) (okc rfl) h)
set_option maxHeartbeats 4000000 in
set_option maxRecDepth 100000 in
theorem ct_X0_setOfOrders {l : Launch} {G : GT_g} {M : Mem_m} (x0 : Nat) (x1 : Int) (o_x1 : ok_i x1) {z : Int} (h : f_X0_setOfOrders G.2.2.2 M x0 x1 = some z) : MI_ l yX0_setOfOrders K_X0_setOfOrders (some .int) G M [.ref (G.1 + x0), iv_i x1] M z :=
  met_of (by decide +kernel) rfl (Nat.le_of_ble_eq_true rfl) (fun X hl C hR => by subst hl; exact t_X0_setOfOrders C hR x0 x1 o_x1 h)
theorem d_X0_lowestBelow_0 : decode cX0_lowestBelow 0 = .ok (.iconst 0, 1) := by decide +kernel
theorem d_X0_lowestBelow_1 : decode cX0_lowestBelow 1 = .ok (.istore 5, 2) := by decide +kernel
theorem d_X0_lowestBelow_3 : decode cX0_lowestBelow 3 = .ok (.iload 5, 2) := by decide +kernel
theorem d_X0_lowestBelow_5 : decode cX0_lowestBelow 5 = .ok (.iload_n 1, 1) := by decide +kernel
theorem d_X0_lowestBelow_6 : decode cX0_lowestBelow 6 = .ok (.if_icmp .ge 81, 3) := by decide +kernel
theorem d_X0_lowestBelow_9 : decode cX0_lowestBelow 9 = .ok (.iload_n 2, 1) := by decide +kernel
theorem d_X0_lowestBelow_10 : decode cX0_lowestBelow 10 = .ok (.aload_n 0, 1) := by decide +kernel
theorem d_X0_lowestBelow_11 : decode cX0_lowestBelow 11 = .ok (.iload 5, 2) := by decide +kernel
theorem d_X0_lowestBelow_13 : decode cX0_lowestBelow 13 = .ok (.iload_n 3, 1) := by decide +kernel
theorem d_X0_lowestBelow_14 : decode cX0_lowestBelow 14 = .ok (.invokevirtual 147, 3) := by decide +kernel
theorem d_X0_lowestBelow_17 : decode cX0_lowestBelow 17 = .ok (.iand, 1) := by decide +kernel
theorem d_X0_lowestBelow_18 : decode cX0_lowestBelow 18 = .ok (.istore 6, 2) := by decide +kernel
theorem d_X0_lowestBelow_20 : decode cX0_lowestBelow 20 = .ok (.iload 4, 2) := by decide +kernel
theorem d_X0_lowestBelow_22 : decode cX0_lowestBelow 22 = .ok (.iconst 1, 1) := by decide +kernel
theorem d_X0_lowestBelow_23 : decode cX0_lowestBelow 23 = .ok (.if_icmp .ne 13, 3) := by decide +kernel
theorem d_X0_lowestBelow_26 : decode cX0_lowestBelow 26 = .ok (.iload 6, 2) := by decide +kernel
theorem d_X0_lowestBelow_28 : decode cX0_lowestBelow 28 = .ok (.ifCond .ne 8, 3) := by decide +kernel
theorem d_X0_lowestBelow_31 : decode cX0_lowestBelow 31 = .ok (.iconst 1, 1) := by decide +kernel
theorem d_X0_lowestBelow_32 : decode cX0_lowestBelow 32 = .ok (.iload 5, 2) := by decide +kernel
theorem d_X0_lowestBelow_34 : decode cX0_lowestBelow 34 = .ok (.ishl, 1) := by decide +kernel
theorem d_X0_lowestBelow_35 : decode cX0_lowestBelow 35 = .ok (.ireturn, 1) := by decide +kernel
theorem d_X0_lowestBelow_36 : decode cX0_lowestBelow 36 = .ok (.iconst 0, 1) := by decide +kernel
theorem d_X0_lowestBelow_37 : decode cX0_lowestBelow 37 = .ok (.istore 7, 2) := by decide +kernel
theorem d_X0_lowestBelow_39 : decode cX0_lowestBelow 39 = .ok (.iload 4, 2) := by decide +kernel
theorem d_X0_lowestBelow_41 : decode cX0_lowestBelow 41 = .ok (.iconst 2, 1) := by decide +kernel
theorem d_X0_lowestBelow_42 : decode cX0_lowestBelow 42 = .ok (.if_icmp .ne 39, 3) := by decide +kernel
theorem d_X0_lowestBelow_45 : decode cX0_lowestBelow 45 = .ok (.iload 7, 2) := by decide +kernel
theorem d_X0_lowestBelow_47 : decode cX0_lowestBelow 47 = .ok (.iload 5, 2) := by decide +kernel
theorem d_X0_lowestBelow_49 : decode cX0_lowestBelow 49 = .ok (.if_icmp .ge 32, 3) := by decide +kernel
theorem d_X0_lowestBelow_52 : decode cX0_lowestBelow 52 = .ok (.iload 6, 2) := by decide +kernel
theorem d_X0_lowestBelow_54 : decode cX0_lowestBelow 54 = .ok (.aload_n 0, 1) := by decide +kernel
theorem d_X0_lowestBelow_55 : decode cX0_lowestBelow 55 = .ok (.iload 7, 2) := by decide +kernel
theorem d_X0_lowestBelow_57 : decode cX0_lowestBelow 57 = .ok (.iload_n 3, 1) := by decide +kernel
theorem d_X0_lowestBelow_58 : decode cX0_lowestBelow 58 = .ok (.invokevirtual 147, 3) := by decide +kernel
theorem d_X0_lowestBelow_61 : decode cX0_lowestBelow 61 = .ok (.iand, 1) := by decide +kernel
theorem d_X0_lowestBelow_62 : decode cX0_lowestBelow 62 = .ok (.ifCond .ne 13, 3) := by decide +kernel
theorem d_X0_lowestBelow_65 : decode cX0_lowestBelow 65 = .ok (.iconst 1, 1) := by decide +kernel
theorem d_X0_lowestBelow_66 : decode cX0_lowestBelow 66 = .ok (.iload 5, 2) := by decide +kernel
theorem d_X0_lowestBelow_68 : decode cX0_lowestBelow 68 = .ok (.ishl, 1) := by decide +kernel
theorem d_X0_lowestBelow_69 : decode cX0_lowestBelow 69 = .ok (.iconst 1, 1) := by decide +kernel
theorem d_X0_lowestBelow_70 : decode cX0_lowestBelow 70 = .ok (.iload 7, 2) := by decide +kernel
theorem d_X0_lowestBelow_72 : decode cX0_lowestBelow 72 = .ok (.ishl, 1) := by decide +kernel
theorem d_X0_lowestBelow_73 : decode cX0_lowestBelow 73 = .ok (.ior, 1) := by decide +kernel
theorem d_X0_lowestBelow_74 : decode cX0_lowestBelow 74 = .ok (.ireturn, 1) := by decide +kernel
theorem d_X0_lowestBelow_75 : decode cX0_lowestBelow 75 = .ok (.iinc 7 1, 3) := by decide +kernel
theorem d_X0_lowestBelow_78 : decode cX0_lowestBelow 78 = .ok (.goto (-39), 3) := by decide +kernel
theorem d_X0_lowestBelow_81 : decode cX0_lowestBelow 81 = .ok (.iinc 5 1, 3) := by decide +kernel
theorem d_X0_lowestBelow_84 : decode cX0_lowestBelow 84 = .ok (.goto (-81), 3) := by decide +kernel
theorem d_X0_lowestBelow_87 : decode cX0_lowestBelow 87 = .ok (.iconst (-1), 1) := by decide +kernel
theorem d_X0_lowestBelow_88 : decode cX0_lowestBelow 88 = .ok (.ireturn, 1) := by decide +kernel
set_option maxHeartbeats 4000000 in
set_option maxRecDepth 100000 in
theorem t_X0_lowestBelow_39 {X : XT_x} {G : GT_g} {z : Int} (C : Cx_ (K_X0_lowestBelow) X G) (hR : Rx_ X G (some .int)) (M : Mem_m) (x0 : Nat) (x1 : Int) (x2 : Int) (x3 : Int) (x4 : Int) (x5 : Int) (x6 : Int) (o_x1 : ok_i x1) (o_x2 : ok_i x2) (o_x3 : ok_i x3) (o_x4 : ok_i x4) (o_x5 : ok_i x5) (o_x6 : ok_i x6) (k_3 : Int → Option Int) (hk_3 : ∀ (x5 : Int) (o_x5 : ok_i x5), k_3 x5 = some z → V_ (K_X0_lowestBelow) X G (Fq_ X G (Qi_ G M z)) M 3 [(0, .ref (G.1 + x0)), (1, iv_i x1), (2, iv_i x2), (3, iv_i x3), (4, iv_i x4), (5, iv_i x5)] []) : ∀ (n : Nat) (x7 : Int) (o_x7 : ok_i x7), f_X0_lowestBelow_39 G.2.2.2 k_3 M x0 x1 x2 x3 x4 x5 x6 n x7 = some z → V_ (K_X0_lowestBelow) X G (Fq_ X G (Qi_ G M z)) M 39 [(0, .ref (G.1 + x0)), (1, iv_i x1), (2, iv_i x2), (3, iv_i x3), (4, iv_i x4), (5, iv_i x5), (6, iv_i x6), (7, iv_i x7)] [] := by
  intro n
  induction n with
  | zero => intro x7 o_x7 h; exact absurd h (by simp [f_X0_lowestBelow_39])
  | succ n ih =>
    intro x7 o_x7 h
    unfold f_X0_lowestBelow_39 at h
    refine V_iload (j := 4) C d_X0_lowestBelow_39 rfl ?_
    refine V_iconst C d_X0_lowestBelow_41 ?_
    refine V_icmp_ne (tgt := 81) C d_X0_lowestBelow_42 (by decide) o_x4 (okc rfl) h (fun h => ?_) (fun h => ?_)
    · skip
      refine V_iload (j := 7) C d_X0_lowestBelow_45 rfl ?_
      refine V_iload (j := 5) C d_X0_lowestBelow_47 rfl ?_
      refine V_icmp_ge (tgt := 81) C d_X0_lowestBelow_49 (by decide) o_x7 o_x5 h (fun h => ?_) (fun h => ?_)
      · skip
        refine V_iload (j := 6) C d_X0_lowestBelow_52 rfl ?_
        refine V_aload_n (j := 0) C d_X0_lowestBelow_54 rfl rfl ?_
        refine V_iload (j := 7) C d_X0_lowestBelow_55 rfl ?_
        refine V_iload_n (j := 3) C d_X0_lowestBelow_57 rfl rfl ?_
        refine V_callVri (K' := K_X0_leftBy) (a := x0) (ci := 0) (av := [iv_i x7, iv_i x3]) (rest := [iv_i x6]) yi_X0_leftBy (by decide) rfl C (yk_X0_leftBy) l1_X0_147 (by decide) d_X0_lowestBelow_58 (fun v hv => ct_X0_leftBy x0 x7 x3 o_x7 o_x3 hv) rfl rfl (Nat.le_of_ble_eq_true rfl) h (fun v1 o1 h => ?_)
        refine V_iand C d_X0_lowestBelow_61 ?_
        refine V_if_ne (tgt := 75) C d_X0_lowestBelow_62 (by decide) (ok_I _) h (fun h => ?_) (fun h => ?_)
        · skip
          refine V_iconst C d_X0_lowestBelow_65 ?_
          refine V_iload (j := 5) C d_X0_lowestBelow_66 rfl ?_
          refine V_ishl C d_X0_lowestBelow_68 ?_
          refine V_iconst C d_X0_lowestBelow_69 ?_
          refine V_iload (j := 7) C d_X0_lowestBelow_70 rfl ?_
          refine V_ishl C d_X0_lowestBelow_72 ?_
          refine V_ior C d_X0_lowestBelow_73 ?_
          exact V_iret_r C hR d_X0_lowestBelow_74 (ok_I _) h
        · skip
          refine V_iinc (j := 7) (lv' := [(7, iv_i (wr_i (x7 + 1))), (0, .ref (G.1 + x0)), (1, iv_i x1), (2, iv_i x2), (3, iv_i x3), (4, iv_i x4), (5, iv_i x5), (6, iv_i x6)]) C d_X0_lowestBelow_75 rfl (by decide) rfl ?_
          refine V_goto (tgt := 39) C d_X0_lowestBelow_78 (by decide) ?_
          refine V_lv [1, 2, 3, 4, 5, 6, 7, 0] rfl (ih (wr_i (x7 + 1)) (ok_wr _) h)
      · skip
        refine V_iinc (j := 5) (lv' := [(5, iv_i (wr_i (x5 + 1))), (0, .ref (G.1 + x0)), (1, iv_i x1), (2, iv_i x2), (3, iv_i x3), (4, iv_i x4), (6, iv_i x6), (7, iv_i x7)]) C d_X0_lowestBelow_81 rfl (by decide) rfl ?_
        refine V_goto (tgt := 3) C d_X0_lowestBelow_84 (by decide) ?_
        refine V_lv [1, 2, 3, 4, 5, 0] rfl (hk_3 (wr_i (x5 + 1)) (ok_wr _) h)
    · skip
      refine V_iinc (j := 5) (lv' := [(5, iv_i (wr_i (x5 + 1))), (0, .ref (G.1 + x0)), (1, iv_i x1), (2, iv_i x2), (3, iv_i x3), (4, iv_i x4), (6, iv_i x6), (7, iv_i x7)]) C d_X0_lowestBelow_81 rfl (by decide) rfl ?_
      refine V_goto (tgt := 3) C d_X0_lowestBelow_84 (by decide) ?_
      refine V_lv [1, 2, 3, 4, 5, 0] rfl (hk_3 (wr_i (x5 + 1)) (ok_wr _) h)
set_option maxHeartbeats 4000000 in
set_option maxRecDepth 100000 in
theorem t_X0_lowestBelow_3 {X : XT_x} {G : GT_g} {z : Int} (C : Cx_ (K_X0_lowestBelow) X G) (hR : Rx_ X G (some .int)) (M : Mem_m) (x0 : Nat) (x1 : Int) (x2 : Int) (x3 : Int) (x4 : Int) (o_x1 : ok_i x1) (o_x2 : ok_i x2) (o_x3 : ok_i x3) (o_x4 : ok_i x4) : ∀ (n : Nat) (x5 : Int) (o_x5 : ok_i x5), f_X0_lowestBelow_3 G.2.2.2 M x0 x1 x2 x3 x4 n x5 = some z → V_ (K_X0_lowestBelow) X G (Fq_ X G (Qi_ G M z)) M 3 [(0, .ref (G.1 + x0)), (1, iv_i x1), (2, iv_i x2), (3, iv_i x3), (4, iv_i x4), (5, iv_i x5)] [] := by
  intro n
  induction n with
  | zero => intro x5 o_x5 h; exact absurd h (by simp [f_X0_lowestBelow_3])
  | succ n ih =>
    intro x5 o_x5 h
    unfold f_X0_lowestBelow_3 at h
    refine V_iload (j := 5) C d_X0_lowestBelow_3 rfl ?_
    refine V_iload_n (j := 1) C d_X0_lowestBelow_5 rfl rfl ?_
    refine V_icmp_ge (tgt := 87) C d_X0_lowestBelow_6 (by decide) o_x5 o_x1 h (fun h => ?_) (fun h => ?_)
    · skip
      refine V_iload_n (j := 2) C d_X0_lowestBelow_9 rfl rfl ?_
      refine V_aload_n (j := 0) C d_X0_lowestBelow_10 rfl rfl ?_
      refine V_iload (j := 5) C d_X0_lowestBelow_11 rfl ?_
      refine V_iload_n (j := 3) C d_X0_lowestBelow_13 rfl rfl ?_
      refine V_callVri (K' := K_X0_leftBy) (a := x0) (ci := 0) (av := [iv_i x5, iv_i x3]) (rest := [iv_i x2]) yi_X0_leftBy (by decide) rfl C (yk_X0_leftBy) l1_X0_147 (by decide) d_X0_lowestBelow_14 (fun v hv => ct_X0_leftBy x0 x5 x3 o_x5 o_x3 hv) rfl rfl (Nat.le_of_ble_eq_true rfl) h (fun v1 o1 h => ?_)
      refine V_iand C d_X0_lowestBelow_17 ?_
      refine V_istore (lv' := [(6, iv_i (an_i x2 v1)), (0, .ref (G.1 + x0)), (1, iv_i x1), (2, iv_i x2), (3, iv_i x3), (4, iv_i x4), (5, iv_i x5)]) C d_X0_lowestBelow_18 (by decide) rfl ?_
      refine V_iload (j := 5) C d_X0_lowestBelow_20 rfl ?_
      refine V_iconst C d_X0_lowestBelow_22 ?_
      refine V_icmp_ne (tgt := 36) C d_X0_lowestBelow_23 (by decide) o_x4 (okc rfl) h (fun h => ?_) (fun h => ?_)
      · skip
        refine V_iload (j := 0) C d_X0_lowestBelow_26 rfl ?_
        refine V_if_ne (tgt := 36) C d_X0_lowestBelow_28 (by decide) (ok_I _) h (fun h => ?_) (fun h => ?_)
        · skip
          refine V_iconst C d_X0_lowestBelow_31 ?_
          refine V_iload (j := 6) C d_X0_lowestBelow_32 rfl ?_
          refine V_ishl C d_X0_lowestBelow_34 ?_
          exact V_iret_r C hR d_X0_lowestBelow_35 (ok_I _) h
        · skip
          refine V_iconst C d_X0_lowestBelow_36 ?_
          refine V_istore (lv' := [(7, iv_i 0), (6, iv_i (an_i x2 v1)), (0, .ref (G.1 + x0)), (1, iv_i x1), (2, iv_i x2), (3, iv_i x3), (4, iv_i x4), (5, iv_i x5)]) C d_X0_lowestBelow_37 (by decide) rfl ?_
          refine V_lv [2, 3, 4, 5, 6, 7, 1, 0] rfl (t_X0_lowestBelow_39 C hR M x0 x1 x2 x3 x4 x5 (an_i x2 v1) o_x1 o_x2 o_x3 o_x4 o_x5 (ok_I _) (fun x5 => f_X0_lowestBelow_3 G.2.2.2 M x0 x1 x2 x3 x4 n x5) (fun x5 o_x5 h9 => ih x5 o_x5 h9) FU_ 0 (okc rfl) h)
      · skip
        refine V_iconst C d_X0_lowestBelow_36 ?_
        refine V_istore (lv' := [(7, iv_i 0), (6, iv_i (an_i x2 v1)), (0, .ref (G.1 + x0)), (1, iv_i x1), (2, iv_i x2), (3, iv_i x3), (4, iv_i x4), (5, iv_i x5)]) C d_X0_lowestBelow_37 (by decide) rfl ?_
        refine V_lv [2, 3, 4, 5, 6, 7, 1, 0] rfl (t_X0_lowestBelow_39 C hR M x0 x1 x2 x3 x4 x5 (an_i x2 v1) o_x1 o_x2 o_x3 o_x4 o_x5 (ok_I _) (fun x5 => f_X0_lowestBelow_3 G.2.2.2 M x0 x1 x2 x3 x4 n x5) (fun x5 o_x5 h9 => ih x5 o_x5 h9) FU_ 0 (okc rfl) h)
    · skip
      refine V_iconst C d_X0_lowestBelow_87 ?_
      exact V_iret_r C hR d_X0_lowestBelow_88 (okc rfl) h
set_option maxHeartbeats 4000000 in
set_option maxRecDepth 100000 in
theorem t_X0_lowestBelow {X : XT_x} {G : GT_g} {M : Mem_m} {z : Int} (C : Cx_ (K_X0_lowestBelow) X G) (hR : Rx_ X G (some .int)) (x0 : Nat) (x1 : Int) (x2 : Int) (x3 : Int) (x4 : Int) (o_x1 : ok_i x1) (o_x2 : ok_i x2) (o_x3 : ok_i x3) (o_x4 : ok_i x4) (h : f_X0_lowestBelow G.2.2.2 M x0 x1 x2 x3 x4 = some z) : V_ (K_X0_lowestBelow) X G (Fq_ X G (Qi_ G M z)) M 0 [(0, .ref (G.1 + x0)), (1, iv_i x1), (2, iv_i x2), (3, iv_i x3), (4, iv_i x4)] [] := by
  unfold f_X0_lowestBelow at h
  refine V_iconst C d_X0_lowestBelow_0 ?_
  refine V_istore (lv' := [(5, iv_i 0), (0, .ref (G.1 + x0)), (1, iv_i x1), (2, iv_i x2), (3, iv_i x3), (4, iv_i x4)]) C d_X0_lowestBelow_1 (by decide) rfl ?_
  refine V_lv [1, 2, 3, 4, 5, 0] rfl (t_X0_lowestBelow_3 C hR M x0 x1 x2 x3 x4 o_x1 o_x2 o_x3 o_x4 FU_ 0 (okc rfl) h)
set_option maxHeartbeats 4000000 in
set_option maxRecDepth 100000 in
theorem ct_X0_lowestBelow {l : Launch} {G : GT_g} {M : Mem_m} (x0 : Nat) (x1 : Int) (x2 : Int) (x3 : Int) (x4 : Int) (o_x1 : ok_i x1) (o_x2 : ok_i x2) (o_x3 : ok_i x3) (o_x4 : ok_i x4) {z : Int} (h : f_X0_lowestBelow G.2.2.2 M x0 x1 x2 x3 x4 = some z) : MI_ l yX0_lowestBelow K_X0_lowestBelow (some .int) G M [.ref (G.1 + x0), iv_i x1, iv_i x2, iv_i x3, iv_i x4] M z :=
  met_of (by decide +kernel) rfl (Nat.le_of_ble_eq_true rfl) (fun X hl C hR => by subst hl; exact t_X0_lowestBelow C hR x0 x1 x2 x3 x4 o_x1 o_x2 o_x3 o_x4 h)
theorem d_X0_leastWithoutOrder_0 : decode cX0_leastWithoutOrder 0 = .ok (.iconst 0, 1) := by decide +kernel
theorem d_X0_leastWithoutOrder_1 : decode cX0_leastWithoutOrder 1 = .ok (.istore_n 3, 1) := by decide +kernel
theorem d_X0_leastWithoutOrder_2 : decode cX0_leastWithoutOrder 2 = .ok (.iload_n 3, 1) := by decide +kernel
theorem d_X0_leastWithoutOrder_3 : decode cX0_leastWithoutOrder 3 = .ok (.aload_n 0, 1) := by decide +kernel
theorem d_X0_leastWithoutOrder_4 : decode cX0_leastWithoutOrder 4 = .ok (.getfield 88, 3) := by decide +kernel
theorem d_X0_leastWithoutOrder_7 : decode cX0_leastWithoutOrder 7 = .ok (.if_icmp .ge 60, 3) := by decide +kernel
theorem d_X0_leastWithoutOrder_10 : decode cX0_leastWithoutOrder 10 = .ok (.aload_n 0, 1) := by decide +kernel
theorem d_X0_leastWithoutOrder_11 : decode cX0_leastWithoutOrder 11 = .ok (.iload_n 3, 1) := by decide +kernel
theorem d_X0_leastWithoutOrder_12 : decode cX0_leastWithoutOrder 12 = .ok (.iload_n 1, 1) := by decide +kernel
theorem d_X0_leastWithoutOrder_13 : decode cX0_leastWithoutOrder 13 = .ok (.invokevirtual 147, 3) := by decide +kernel
theorem d_X0_leastWithoutOrder_16 : decode cX0_leastWithoutOrder 16 = .ok (.istore 4, 2) := by decide +kernel
theorem d_X0_leastWithoutOrder_18 : decode cX0_leastWithoutOrder 18 = .ok (.iload_n 2, 1) := by decide +kernel
theorem d_X0_leastWithoutOrder_19 : decode cX0_leastWithoutOrder 19 = .ok (.iconst 1, 1) := by decide +kernel
theorem d_X0_leastWithoutOrder_20 : decode cX0_leastWithoutOrder 20 = .ok (.if_icmp .ne 16, 3) := by decide +kernel
theorem d_X0_leastWithoutOrder_23 : decode cX0_leastWithoutOrder 23 = .ok (.iload 4, 2) := by decide +kernel
theorem d_X0_leastWithoutOrder_25 : decode cX0_leastWithoutOrder 25 = .ok (.ifCond .ne 7, 3) := by decide +kernel
theorem d_X0_leastWithoutOrder_28 : decode cX0_leastWithoutOrder 28 = .ok (.iconst 0, 1) := by decide +kernel
theorem d_X0_leastWithoutOrder_29 : decode cX0_leastWithoutOrder 29 = .ok (.goto 18, 3) := by decide +kernel
theorem d_X0_leastWithoutOrder_32 : decode cX0_leastWithoutOrder 32 = .ok (.iconst (-1), 1) := by decide +kernel
theorem d_X0_leastWithoutOrder_33 : decode cX0_leastWithoutOrder 33 = .ok (.goto 14, 3) := by decide +kernel
theorem d_X0_leastWithoutOrder_36 : decode cX0_leastWithoutOrder 36 = .ok (.aload_n 0, 1) := by decide +kernel
theorem d_X0_leastWithoutOrder_37 : decode cX0_leastWithoutOrder 37 = .ok (.iload_n 3, 1) := by decide +kernel
theorem d_X0_leastWithoutOrder_38 : decode cX0_leastWithoutOrder 38 = .ok (.iload 4, 2) := by decide +kernel
theorem d_X0_leastWithoutOrder_40 : decode cX0_leastWithoutOrder 40 = .ok (.iload_n 1, 1) := by decide +kernel
theorem d_X0_leastWithoutOrder_41 : decode cX0_leastWithoutOrder 41 = .ok (.iload_n 2, 1) := by decide +kernel
theorem d_X0_leastWithoutOrder_42 : decode cX0_leastWithoutOrder 42 = .ok (.iconst 1, 1) := by decide +kernel
theorem d_X0_leastWithoutOrder_43 : decode cX0_leastWithoutOrder 43 = .ok (.isub, 1) := by decide +kernel
theorem d_X0_leastWithoutOrder_44 : decode cX0_leastWithoutOrder 44 = .ok (.invokevirtual 157, 3) := by decide +kernel
theorem d_X0_leastWithoutOrder_47 : decode cX0_leastWithoutOrder 47 = .ok (.istore 5, 2) := by decide +kernel
theorem d_X0_leastWithoutOrder_49 : decode cX0_leastWithoutOrder 49 = .ok (.iload 5, 2) := by decide +kernel
theorem d_X0_leastWithoutOrder_51 : decode cX0_leastWithoutOrder 51 = .ok (.ifCond .lt 10, 3) := by decide +kernel
theorem d_X0_leastWithoutOrder_54 : decode cX0_leastWithoutOrder 54 = .ok (.iload 5, 2) := by decide +kernel
theorem d_X0_leastWithoutOrder_56 : decode cX0_leastWithoutOrder 56 = .ok (.iconst 1, 1) := by decide +kernel
theorem d_X0_leastWithoutOrder_57 : decode cX0_leastWithoutOrder 57 = .ok (.iload_n 3, 1) := by decide +kernel
theorem d_X0_leastWithoutOrder_58 : decode cX0_leastWithoutOrder 58 = .ok (.ishl, 1) := by decide +kernel
theorem d_X0_leastWithoutOrder_59 : decode cX0_leastWithoutOrder 59 = .ok (.ior, 1) := by decide +kernel
theorem d_X0_leastWithoutOrder_60 : decode cX0_leastWithoutOrder 60 = .ok (.ireturn, 1) := by decide +kernel
theorem d_X0_leastWithoutOrder_61 : decode cX0_leastWithoutOrder 61 = .ok (.iinc 3 1, 3) := by decide +kernel
theorem d_X0_leastWithoutOrder_64 : decode cX0_leastWithoutOrder 64 = .ok (.goto (-62), 3) := by decide +kernel
theorem d_X0_leastWithoutOrder_67 : decode cX0_leastWithoutOrder 67 = .ok (.iconst 0, 1) := by decide +kernel
theorem d_X0_leastWithoutOrder_68 : decode cX0_leastWithoutOrder 68 = .ok (.ireturn, 1) := by decide +kernel
set_option maxHeartbeats 4000000 in
set_option maxRecDepth 100000 in
theorem t_X0_leastWithoutOrder_47 {X : XT_x} {G : GT_g} {z : Int} (C : Cx_ (K_X0_leastWithoutOrder) X G) (hR : Rx_ X G (some .int)) (M : Mem_m) (x0 : Nat) (x1 : Int) (x2 : Int) (x3 : Int) (s0 : Int) (o_x1 : ok_i x1) (o_x2 : ok_i x2) (o_x3 : ok_i x3) (o_s0 : ok_i s0) (k_2 : Int → Option Int) (hk_2 : ∀ (x3 : Int) (o_x3 : ok_i x3), k_2 x3 = some z → V_ (K_X0_leastWithoutOrder) X G (Fq_ X G (Qi_ G M z)) M 2 [(0, .ref (G.1 + x0)), (1, iv_i x1), (2, iv_i x2), (3, iv_i x3)] []) (h : f_X0_leastWithoutOrder_47 G.2.2.2 k_2 M x0 x1 x2 x3 s0 = some z) : V_ (K_X0_leastWithoutOrder) X G (Fq_ X G (Qi_ G M z)) M 47 [(0, .ref (G.1 + x0)), (1, iv_i x1), (2, iv_i x2), (3, iv_i x3)] [iv_i s0] := by
  unfold f_X0_leastWithoutOrder_47 at h
  refine V_istore (lv' := [(5, iv_i s0), (0, .ref (G.1 + x0)), (1, iv_i x1), (2, iv_i x2), (3, iv_i x3)]) C d_X0_leastWithoutOrder_47 (by decide) rfl ?_
  refine V_iload (j := 0) C d_X0_leastWithoutOrder_49 rfl ?_
  refine V_if_lt (tgt := 61) C d_X0_leastWithoutOrder_51 (by decide) o_s0 h (fun h => ?_) (fun h => ?_)
  · skip
    refine V_iinc (j := 4) (lv' := [(3, iv_i (wr_i (x3 + 1))), (5, iv_i s0), (0, .ref (G.1 + x0)), (1, iv_i x1), (2, iv_i x2)]) C d_X0_leastWithoutOrder_61 rfl (by decide) rfl ?_
    refine V_goto (tgt := 2) C d_X0_leastWithoutOrder_64 (by decide) ?_
    refine V_lv [2, 3, 4, 0] rfl (hk_2 (wr_i (x3 + 1)) (ok_wr _) h)
  · skip
    refine V_iload (j := 0) C d_X0_leastWithoutOrder_54 rfl ?_
    refine V_iconst C d_X0_leastWithoutOrder_56 ?_
    refine V_iload_n (j := 4) C d_X0_leastWithoutOrder_57 rfl rfl ?_
    refine V_ishl C d_X0_leastWithoutOrder_58 ?_
    refine V_ior C d_X0_leastWithoutOrder_59 ?_
    exact V_iret_r C hR d_X0_leastWithoutOrder_60 (ok_I _) h
set_option maxHeartbeats 4000000 in
set_option maxRecDepth 100000 in
theorem t_X0_leastWithoutOrder_2 {X : XT_x} {G : GT_g} {z : Int} (C : Cx_ (K_X0_leastWithoutOrder) X G) (hR : Rx_ X G (some .int)) (M : Mem_m) (x0 : Nat) (x1 : Int) (x2 : Int) (o_x1 : ok_i x1) (o_x2 : ok_i x2) : ∀ (n : Nat) (x3 : Int) (o_x3 : ok_i x3), f_X0_leastWithoutOrder_2 G.2.2.2 M x0 x1 x2 n x3 = some z → V_ (K_X0_leastWithoutOrder) X G (Fq_ X G (Qi_ G M z)) M 2 [(0, .ref (G.1 + x0)), (1, iv_i x1), (2, iv_i x2), (3, iv_i x3)] [] := by
  intro n
  induction n with
  | zero => intro x3 o_x3 h; exact absurd h (by simp [f_X0_leastWithoutOrder_2])
  | succ n ih =>
    intro x3 o_x3 h
    unfold f_X0_leastWithoutOrder_2 at h
    refine V_iload_n (j := 3) C d_X0_leastWithoutOrder_2 rfl rfl ?_
    refine V_aload_n (j := 0) C d_X0_leastWithoutOrder_3 rfl rfl ?_
    refine V_getI C ck_0 fw_X0_88 d_X0_leastWithoutOrder_4 h (fun v1 o1 h => ?_)
    refine V_icmp_ge (tgt := 67) C d_X0_leastWithoutOrder_7 (by decide) o_x3 o1 h (fun h => ?_) (fun h => ?_)
    · skip
      refine V_aload_n (j := 0) C d_X0_leastWithoutOrder_10 rfl rfl ?_
      refine V_iload_n (j := 3) C d_X0_leastWithoutOrder_11 rfl rfl ?_
      refine V_iload_n (j := 1) C d_X0_leastWithoutOrder_12 rfl rfl ?_
      refine V_callVri (K' := K_X0_leftBy) (a := x0) (ci := 0) (av := [iv_i x3, iv_i x1]) (rest := []) yi_X0_leftBy (by decide) rfl C (yk_X0_leftBy) l1_X0_147 (by decide) d_X0_leastWithoutOrder_13 (fun v hv => ct_X0_leftBy x0 x3 x1 o_x3 o_x1 hv) rfl rfl (Nat.le_of_ble_eq_true rfl) h (fun v2 o2 h => ?_)
      refine V_istore (lv' := [(4, iv_i v2), (0, .ref (G.1 + x0)), (1, iv_i x1), (2, iv_i x2), (3, iv_i x3)]) C d_X0_leastWithoutOrder_16 (by decide) rfl ?_
      refine V_iload_n (j := 3) C d_X0_leastWithoutOrder_18 rfl rfl ?_
      refine V_iconst C d_X0_leastWithoutOrder_19 ?_
      refine V_icmp_ne (tgt := 36) C d_X0_leastWithoutOrder_20 (by decide) o_x2 (okc rfl) h (fun h => ?_) (fun h => ?_)
      · skip
        refine V_iload (j := 0) C d_X0_leastWithoutOrder_23 rfl ?_
        refine V_if_ne (tgt := 32) C d_X0_leastWithoutOrder_25 (by decide) o2 h (fun h => ?_) (fun h => ?_)
        · skip
          refine V_iconst C d_X0_leastWithoutOrder_28 ?_
          refine V_goto (tgt := 47) C d_X0_leastWithoutOrder_29 (by decide) ?_
          refine V_lv [1, 2, 3, 4] rfl (t_X0_leastWithoutOrder_47 C hR M x0 x1 x2 x3 0 o_x1 o_x2 o_x3 (okc rfl) (fun x3 => f_X0_leastWithoutOrder_2 G.2.2.2 M x0 x1 x2 n x3) (fun x3 o_x3 h9 => ih x3 o_x3 h9) h)
        · skip
          refine V_iconst C d_X0_leastWithoutOrder_32 ?_
          refine V_goto (tgt := 47) C d_X0_leastWithoutOrder_33 (by decide) ?_
          refine V_lv [1, 2, 3, 4] rfl (t_X0_leastWithoutOrder_47 C hR M x0 x1 x2 x3 (-1) o_x1 o_x2 o_x3 (okc rfl) (fun x3 => f_X0_leastWithoutOrder_2 G.2.2.2 M x0 x1 x2 n x3) (fun x3 o_x3 h9 => ih x3 o_x3 h9) h)
      · skip
        refine V_aload_n (j := 1) C d_X0_leastWithoutOrder_36 rfl rfl ?_
        refine V_iload_n (j := 4) C d_X0_leastWithoutOrder_37 rfl rfl ?_
        refine V_iload (j := 0) C d_X0_leastWithoutOrder_38 rfl ?_
        refine V_iload_n (j := 2) C d_X0_leastWithoutOrder_40 rfl rfl ?_
        refine V_iload_n (j := 3) C d_X0_leastWithoutOrder_41 rfl rfl ?_
        refine V_iconst C d_X0_leastWithoutOrder_42 ?_
        refine V_isub C d_X0_leastWithoutOrder_43 ?_
        refine V_callVri (K' := K_X0_lowestBelow) (a := x0) (ci := 0) (av := [iv_i x3, iv_i v2, iv_i x1, iv_i (wr_i (x2 - 1))]) (rest := []) yi_X0_lowestBelow (by decide) rfl C (yk_X0_lowestBelow) l1_X0_157 (by decide) d_X0_leastWithoutOrder_44 (fun v hv => ct_X0_lowestBelow x0 x3 v2 x1 (wr_i (x2 - 1)) o_x3 o2 o_x1 (ok_wr _) hv) rfl rfl (Nat.le_of_ble_eq_true rfl) h (fun v3 o3 h => ?_)
        refine V_lv [1, 2, 3, 4] rfl (t_X0_leastWithoutOrder_47 C hR M x0 x1 x2 x3 v3 o_x1 o_x2 o_x3 o3 (fun x3 => f_X0_leastWithoutOrder_2 G.2.2.2 M x0 x1 x2 n x3) (fun x3 o_x3 h9 => ih x3 o_x3 h9) h)
    · skip
      refine V_iconst C d_X0_leastWithoutOrder_67 ?_
      exact V_iret_r C hR d_X0_leastWithoutOrder_68 (okc rfl) h
set_option maxHeartbeats 4000000 in
set_option maxRecDepth 100000 in
theorem t_X0_leastWithoutOrder {X : XT_x} {G : GT_g} {M : Mem_m} {z : Int} (C : Cx_ (K_X0_leastWithoutOrder) X G) (hR : Rx_ X G (some .int)) (x0 : Nat) (x1 : Int) (x2 : Int) (o_x1 : ok_i x1) (o_x2 : ok_i x2) (h : f_X0_leastWithoutOrder G.2.2.2 M x0 x1 x2 = some z) : V_ (K_X0_leastWithoutOrder) X G (Fq_ X G (Qi_ G M z)) M 0 [(0, .ref (G.1 + x0)), (1, iv_i x1), (2, iv_i x2)] [] := by
  unfold f_X0_leastWithoutOrder at h
  refine V_iconst C d_X0_leastWithoutOrder_0 ?_
  refine V_istore_n (lv' := [(3, iv_i 0), (0, .ref (G.1 + x0)), (1, iv_i x1), (2, iv_i x2)]) C d_X0_leastWithoutOrder_1 rfl (by decide) rfl ?_
  refine V_lv [1, 2, 3, 0] rfl (t_X0_leastWithoutOrder_2 C hR M x0 x1 x2 o_x1 o_x2 FU_ 0 (okc rfl) h)
set_option maxHeartbeats 4000000 in
set_option maxRecDepth 100000 in
theorem ct_X0_leastWithoutOrder {l : Launch} {G : GT_g} {M : Mem_m} (x0 : Nat) (x1 : Int) (x2 : Int) (o_x1 : ok_i x1) (o_x2 : ok_i x2) {z : Int} (h : f_X0_leastWithoutOrder G.2.2.2 M x0 x1 x2 = some z) : MI_ l yX0_leastWithoutOrder K_X0_leastWithoutOrder (some .int) G M [.ref (G.1 + x0), iv_i x1, iv_i x2] M z :=
  met_of (by decide +kernel) rfl (Nat.le_of_ble_eq_true rfl) (fun X hl C hR => by subst hl; exact t_X0_leastWithoutOrder C hR x0 x1 x2 o_x1 o_x2 h)
theorem d_X0_saidBy_0 : decode cX0_saidBy 0 = .ok (.iconst 0, 1) := by decide +kernel
theorem d_X0_saidBy_1 : decode cX0_saidBy 1 = .ok (.istore_n 2, 1) := by decide +kernel
theorem d_X0_saidBy_2 : decode cX0_saidBy 2 = .ok (.iconst 0, 1) := by decide +kernel
theorem d_X0_saidBy_3 : decode cX0_saidBy 3 = .ok (.istore_n 3, 1) := by decide +kernel
theorem d_X0_saidBy_4 : decode cX0_saidBy 4 = .ok (.iload_n 3, 1) := by decide +kernel
theorem d_X0_saidBy_5 : decode cX0_saidBy 5 = .ok (.aload_n 0, 1) := by decide +kernel
theorem d_X0_saidBy_6 : decode cX0_saidBy 6 = .ok (.getfield 88, 3) := by decide +kernel
theorem d_X0_saidBy_9 : decode cX0_saidBy 9 = .ok (.if_icmp .ge 25, 3) := by decide +kernel
theorem d_X0_saidBy_12 : decode cX0_saidBy 12 = .ok (.aload_n 0, 1) := by decide +kernel
theorem d_X0_saidBy_13 : decode cX0_saidBy 13 = .ok (.getfield 41, 3) := by decide +kernel
theorem d_X0_saidBy_16 : decode cX0_saidBy 16 = .ok (.iload_n 3, 1) := by decide +kernel
theorem d_X0_saidBy_17 : decode cX0_saidBy 17 = .ok (.aaload, 1) := by decide +kernel
theorem d_X0_saidBy_18 : decode cX0_saidBy 18 = .ok (.getfield 151, 3) := by decide +kernel
theorem d_X0_saidBy_21 : decode cX0_saidBy 21 = .ok (.iload_n 1, 1) := by decide +kernel
theorem d_X0_saidBy_22 : decode cX0_saidBy 22 = .ok (.if_icmp .ne 6, 3) := by decide +kernel
theorem d_X0_saidBy_25 : decode cX0_saidBy 25 = .ok (.iinc 2 1, 3) := by decide +kernel
theorem d_X0_saidBy_28 : decode cX0_saidBy 28 = .ok (.iinc 3 1, 3) := by decide +kernel
theorem d_X0_saidBy_31 : decode cX0_saidBy 31 = .ok (.goto (-27), 3) := by decide +kernel
theorem d_X0_saidBy_34 : decode cX0_saidBy 34 = .ok (.iload_n 2, 1) := by decide +kernel
theorem d_X0_saidBy_35 : decode cX0_saidBy 35 = .ok (.ireturn, 1) := by decide +kernel
set_option maxHeartbeats 4000000 in
set_option maxRecDepth 100000 in
theorem t_X0_saidBy_4 {X : XT_x} {G : GT_g} {z : Int} (C : Cx_ (K_X0_saidBy) X G) (hR : Rx_ X G (some .int)) (M : Mem_m) (x0 : Nat) (x1 : Int) (o_x1 : ok_i x1) : ∀ (n : Nat) (x2 : Int) (x3 : Int) (o_x2 : ok_i x2) (o_x3 : ok_i x3), f_X0_saidBy_4 G.2.2.2 M x0 x1 n x2 x3 = some z → V_ (K_X0_saidBy) X G (Fq_ X G (Qi_ G M z)) M 4 [(0, .ref (G.1 + x0)), (1, iv_i x1), (2, iv_i x2), (3, iv_i x3)] [] := by
  intro n
  induction n with
  | zero => intro x2 x3 o_x2 o_x3 h; exact absurd h (by simp [f_X0_saidBy_4])
  | succ n ih =>
    intro x2 x3 o_x2 o_x3 h
    unfold f_X0_saidBy_4 at h
    refine V_iload_n (j := 3) C d_X0_saidBy_4 rfl rfl ?_
    refine V_aload_n (j := 0) C d_X0_saidBy_5 rfl rfl ?_
    refine V_getI C ck_0 fw_X0_88 d_X0_saidBy_6 h (fun v1 o1 h => ?_)
    refine V_icmp_ge (tgt := 34) C d_X0_saidBy_9 (by decide) o_x3 o1 h (fun h => ?_) (fun h => ?_)
    · skip
      refine V_aload_n (j := 0) C d_X0_saidBy_12 rfl rfl ?_
      refine V_getR C ck_0 fw_X0_41 d_X0_saidBy_13 h (fun v2 h => ?_)
      refine V_iload_n (j := 3) C d_X0_saidBy_16 rfl rfl ?_
      refine V_aald (t := 3) C tc_3 d_X0_saidBy_17 o_x3 h (fun v3 h => ?_)
      refine V_getI C ck_8 fw_X0_151 d_X0_saidBy_18 h (fun v4 o4 h => ?_)
      refine V_iload_n (j := 1) C d_X0_saidBy_21 rfl rfl ?_
      refine V_icmp_ne (tgt := 28) C d_X0_saidBy_22 (by decide) o4 o_x1 h (fun h => ?_) (fun h => ?_)
      · skip
        refine V_iinc (j := 2) (lv' := [(2, iv_i (wr_i (x2 + 1))), (0, .ref (G.1 + x0)), (1, iv_i x1), (3, iv_i x3)]) C d_X0_saidBy_25 rfl (by decide) rfl ?_
        refine V_iinc (j := 3) (lv' := [(3, iv_i (wr_i (x3 + 1))), (2, iv_i (wr_i (x2 + 1))), (0, .ref (G.1 + x0)), (1, iv_i x1)]) C d_X0_saidBy_28 rfl (by decide) rfl ?_
        refine V_goto (tgt := 4) C d_X0_saidBy_31 (by decide) ?_
        refine V_lv [2, 3, 1, 0] rfl (ih (wr_i (x2 + 1)) (wr_i (x3 + 1)) (ok_wr _) (ok_wr _) h)
      · skip
        refine V_iinc (j := 3) (lv' := [(3, iv_i (wr_i (x3 + 1))), (0, .ref (G.1 + x0)), (1, iv_i x1), (2, iv_i x2)]) C d_X0_saidBy_28 rfl (by decide) rfl ?_
        refine V_goto (tgt := 4) C d_X0_saidBy_31 (by decide) ?_
        refine V_lv [1, 2, 3, 0] rfl (ih x2 (wr_i (x3 + 1)) o_x2 (ok_wr _) h)
    · skip
      refine V_iload_n (j := 2) C d_X0_saidBy_34 rfl rfl ?_
      exact V_iret_r C hR d_X0_saidBy_35 o_x2 h
set_option maxHeartbeats 4000000 in
set_option maxRecDepth 100000 in
theorem t_X0_saidBy {X : XT_x} {G : GT_g} {M : Mem_m} {z : Int} (C : Cx_ (K_X0_saidBy) X G) (hR : Rx_ X G (some .int)) (x0 : Nat) (x1 : Int) (o_x1 : ok_i x1) (h : f_X0_saidBy G.2.2.2 M x0 x1 = some z) : V_ (K_X0_saidBy) X G (Fq_ X G (Qi_ G M z)) M 0 [(0, .ref (G.1 + x0)), (1, iv_i x1)] [] := by
  unfold f_X0_saidBy at h
  refine V_iconst C d_X0_saidBy_0 ?_
  refine V_istore_n (lv' := [(2, iv_i 0), (0, .ref (G.1 + x0)), (1, iv_i x1)]) C d_X0_saidBy_1 rfl (by decide) rfl ?_
  refine V_iconst C d_X0_saidBy_2 ?_
  refine V_istore_n (lv' := [(3, iv_i 0), (2, iv_i 0), (0, .ref (G.1 + x0)), (1, iv_i x1)]) C d_X0_saidBy_3 rfl (by decide) rfl ?_
  refine V_lv [2, 3, 1, 0] rfl (t_X0_saidBy_4 C hR M x0 x1 o_x1 FU_ 0 0 (okc rfl) (okc rfl) h)
set_option maxHeartbeats 4000000 in
set_option maxRecDepth 100000 in
theorem ct_X0_saidBy {l : Launch} {G : GT_g} {M : Mem_m} (x0 : Nat) (x1 : Int) (o_x1 : ok_i x1) {z : Int} (h : f_X0_saidBy G.2.2.2 M x0 x1 = some z) : MI_ l yX0_saidBy K_X0_saidBy (some .int) G M [.ref (G.1 + x0), iv_i x1] M z :=
  met_of (by decide +kernel) rfl (Nat.le_of_ble_eq_true rfl) (fun X hl C hR => by subst hl; exact t_X0_saidBy C hR x0 x1 o_x1 h)
