theorem d_X3_outcomesOf_0 : decode cX3_outcomesOf 0 = .ok (.iconst 1, 1) := by decide +kernel
theorem d_X3_outcomesOf_1 : decode cX3_outcomesOf 1 = .ok (.iload_n 0, 1) := by decide +kernel
theorem d_X3_outcomesOf_2 : decode cX3_outcomesOf 2 = .ok (.ishl, 1) := by decide +kernel
theorem d_X3_outcomesOf_3 : decode cX3_outcomesOf 3 = .ok (.istore_n 2, 1) := by decide +kernel
theorem d_X3_outcomesOf_4 : decode cX3_outcomesOf 4 = .ok (.iconst 0, 1) := by decide +kernel
theorem d_X3_outcomesOf_5 : decode cX3_outcomesOf 5 = .ok (.istore_n 3, 1) := by decide +kernel
theorem d_X3_outcomesOf_6 : decode cX3_outcomesOf 6 = .ok (.iload_n 3, 1) := by decide +kernel
theorem d_X3_outcomesOf_7 : decode cX3_outcomesOf 7 = .ok (.aload_n 1, 1) := by decide +kernel
theorem d_X3_outcomesOf_8 : decode cX3_outcomesOf 8 = .ok (.getfield 43, 3) := by decide +kernel
theorem d_X3_outcomesOf_11 : decode cX3_outcomesOf 11 = .ok (.if_icmp .ge 70, 3) := by decide +kernel
theorem d_X3_outcomesOf_14 : decode cX3_outcomesOf 14 = .ok (.iconst 0, 1) := by decide +kernel
theorem d_X3_outcomesOf_15 : decode cX3_outcomesOf 15 = .ok (.istore 4, 2) := by decide +kernel
theorem d_X3_outcomesOf_17 : decode cX3_outcomesOf 17 = .ok (.iload 4, 2) := by decide +kernel
theorem d_X3_outcomesOf_19 : decode cX3_outcomesOf 19 = .ok (.bipush 10, 2) := by decide +kernel
theorem d_X3_outcomesOf_21 : decode cX3_outcomesOf 21 = .ok (.if_icmp .ge 54, 3) := by decide +kernel
theorem d_X3_outcomesOf_24 : decode cX3_outcomesOf 24 = .ok (.iload_n 2, 1) := by decide +kernel
theorem d_X3_outcomesOf_25 : decode cX3_outcomesOf 25 = .ok (.iload 4, 2) := by decide +kernel
theorem d_X3_outcomesOf_27 : decode cX3_outcomesOf 27 = .ok (.ishr, 1) := by decide +kernel
theorem d_X3_outcomesOf_28 : decode cX3_outcomesOf 28 = .ok (.iconst 1, 1) := by decide +kernel
theorem d_X3_outcomesOf_29 : decode cX3_outcomesOf 29 = .ok (.iand, 1) := by decide +kernel
theorem d_X3_outcomesOf_30 : decode cX3_outcomesOf 30 = .ok (.iconst 1, 1) := by decide +kernel
theorem d_X3_outcomesOf_31 : decode cX3_outcomesOf 31 = .ok (.if_icmp .ne 38, 3) := by decide +kernel
theorem d_X3_outcomesOf_34 : decode cX3_outcomesOf 34 = .ok (.aload_n 1, 1) := by decide +kernel
theorem d_X3_outcomesOf_35 : decode cX3_outcomesOf 35 = .ok (.getfield 48, 3) := by decide +kernel
theorem d_X3_outcomesOf_38 : decode cX3_outcomesOf 38 = .ok (.iload_n 3, 1) := by decide +kernel
theorem d_X3_outcomesOf_39 : decode cX3_outcomesOf 39 = .ok (.aaload, 1) := by decide +kernel
theorem d_X3_outcomesOf_40 : decode cX3_outcomesOf 40 = .ok (.getfield 59, 3) := by decide +kernel
theorem d_X3_outcomesOf_43 : decode cX3_outcomesOf 43 = .ok (.iload 4, 2) := by decide +kernel
theorem d_X3_outcomesOf_45 : decode cX3_outcomesOf 45 = .ok (.aload_n 1, 1) := by decide +kernel
theorem d_X3_outcomesOf_46 : decode cX3_outcomesOf 46 = .ok (.getfield 52, 3) := by decide +kernel
theorem d_X3_outcomesOf_49 : decode cX3_outcomesOf 49 = .ok (.invokestatic 62, 3) := by decide +kernel
theorem d_X3_outcomesOf_52 : decode cX3_outcomesOf 52 = .ok (.ifCond .eq 17, 3) := by decide +kernel
theorem d_X3_outcomesOf_55 : decode cX3_outcomesOf 55 = .ok (.iload_n 2, 1) := by decide +kernel
theorem d_X3_outcomesOf_56 : decode cX3_outcomesOf 56 = .ok (.iconst 1, 1) := by decide +kernel
theorem d_X3_outcomesOf_57 : decode cX3_outcomesOf 57 = .ok (.aload_n 1, 1) := by decide +kernel
theorem d_X3_outcomesOf_58 : decode cX3_outcomesOf 58 = .ok (.getfield 48, 3) := by decide +kernel
theorem d_X3_outcomesOf_61 : decode cX3_outcomesOf 61 = .ok (.iload_n 3, 1) := by decide +kernel
theorem d_X3_outcomesOf_62 : decode cX3_outcomesOf 62 = .ok (.aaload, 1) := by decide +kernel
theorem d_X3_outcomesOf_63 : decode cX3_outcomesOf 63 = .ok (.getfield 72, 3) := by decide +kernel
theorem d_X3_outcomesOf_66 : decode cX3_outcomesOf 66 = .ok (.ishl, 1) := by decide +kernel
theorem d_X3_outcomesOf_67 : decode cX3_outcomesOf 67 = .ok (.ior, 1) := by decide +kernel
theorem d_X3_outcomesOf_68 : decode cX3_outcomesOf 68 = .ok (.istore_n 2, 1) := by decide +kernel
theorem d_X3_outcomesOf_69 : decode cX3_outcomesOf 69 = .ok (.iinc 4 1, 3) := by decide +kernel
theorem d_X3_outcomesOf_72 : decode cX3_outcomesOf 72 = .ok (.goto (-55), 3) := by decide +kernel
theorem d_X3_outcomesOf_75 : decode cX3_outcomesOf 75 = .ok (.iinc 3 1, 3) := by decide +kernel
theorem d_X3_outcomesOf_78 : decode cX3_outcomesOf 78 = .ok (.goto (-72), 3) := by decide +kernel
theorem d_X3_outcomesOf_81 : decode cX3_outcomesOf 81 = .ok (.iload_n 2, 1) := by decide +kernel
theorem d_X3_outcomesOf_82 : decode cX3_outcomesOf 82 = .ok (.ireturn, 1) := by decide +kernel
set_option maxHeartbeats 4000000 in
set_option maxRecDepth 100000 in
theorem t_X3_outcomesOf_17 {X : XT_x} {G : GT_g} {z : Int} (C : Cx_ (K_X3_outcomesOf) X G) (hR : Rx_ X G (some .int)) (M : Mem_m) (x1 : Nat) (x3 : Int) (o_x3 : ok_i x3) (k_6 : Int → Int → Option Int) (hk_6 : ∀ (x2 : Int) (x3 : Int) (o_x2 : ok_i x2) (o_x3 : ok_i x3), k_6 x2 x3 = some z → V_ (K_X3_outcomesOf) X G (Fq_ X G (Qi_ G M z)) M 6 [(1, .ref (G.1 + x1)), (2, iv_i x2), (3, iv_i x3)] []) : ∀ (n : Nat) (x2 : Int) (x4 : Int) (o_x2 : ok_i x2) (o_x4 : ok_i x4), f_X3_outcomesOf_17 G.2.2.2 k_6 M x1 x3 n x2 x4 = some z → V_ (K_X3_outcomesOf) X G (Fq_ X G (Qi_ G M z)) M 17 [(1, .ref (G.1 + x1)), (2, iv_i x2), (3, iv_i x3), (4, iv_i x4)] [] := by
  intro n
  induction n with
  | zero => intro x2 x4 o_x2 o_x4 h; exact absurd h (by simp [f_X3_outcomesOf_17])
  | succ n ih =>
    intro x2 x4 o_x2 o_x4 h
    unfold f_X3_outcomesOf_17 at h
    refine V_iload (j := 3) C d_X3_outcomesOf_17 rfl ?_
    refine V_bipush (v := 10) C d_X3_outcomesOf_19 rfl ?_
    refine V_icmp_ge (tgt := 75) C d_X3_outcomesOf_21 (by decide) o_x4 (okc rfl) h (fun h => ?_) (fun h => ?_)
    · skip
      refine V_iload_n (j := 1) C d_X3_outcomesOf_24 rfl rfl ?_
      refine V_iload (j := 3) C d_X3_outcomesOf_25 rfl ?_
      refine V_ishr C d_X3_outcomesOf_27 ?_
      refine V_iconst C d_X3_outcomesOf_28 ?_
      refine V_iand C d_X3_outcomesOf_29 ?_
      refine V_iconst C d_X3_outcomesOf_30 ?_
      refine V_icmp_ne (tgt := 69) C d_X3_outcomesOf_31 (by decide) (ok_I _) (okc rfl) h (fun h => ?_) (fun h => ?_)
      · skip
        refine V_aload_n (j := 0) C d_X3_outcomesOf_34 rfl rfl ?_
        refine V_getR C ck_0 fw_X3_48 d_X3_outcomesOf_35 h (fun v1 h => ?_)
        refine V_iload_n (j := 2) C d_X3_outcomesOf_38 rfl rfl ?_
        refine V_aald (t := 2) C tc_2 d_X3_outcomesOf_39 o_x3 h (fun v2 h => ?_)
        refine V_getI C ck_7 fw_X3_59 d_X3_outcomesOf_40 h (fun v3 o3 h => ?_)
        refine V_iload (j := 3) C d_X3_outcomesOf_43 rfl ?_
        refine V_aload_n (j := 0) C d_X3_outcomesOf_45 rfl rfl ?_
        refine V_getR C ck_0 fw_X3_52 d_X3_outcomesOf_46 h (fun v4 h => ?_)
        refine V_callSri (K' := K_X7_agrees) (av := [iv_i v3, iv_i x4, .ref (G.1 + v4)]) (rest := []) ys_X7_agrees C (yk_X7_agrees) l1_X3_62 (by decide) d_X3_outcomesOf_49 (fun v hv => ct_X7_agrees v3 x4 v4 o3 o_x4 hv) rfl rfl (Nat.le_of_ble_eq_true rfl) h (fun v5 o5 h => ?_)
        refine V_if_eq (tgt := 69) C d_X3_outcomesOf_52 (by decide) o5 h (fun h => ?_) (fun h => ?_)
        · skip
          refine V_iinc (j := 3) (lv' := [(4, iv_i (wr_i (x4 + 1))), (1, .ref (G.1 + x1)), (2, iv_i x2), (3, iv_i x3)]) C d_X3_outcomesOf_69 rfl (by decide) rfl ?_
          refine V_goto (tgt := 17) C d_X3_outcomesOf_72 (by decide) ?_
          refine V_lv [1, 2, 3, 0] rfl (ih x2 (wr_i (x4 + 1)) o_x2 (ok_wr _) h)
        · skip
          refine V_iload_n (j := 1) C d_X3_outcomesOf_55 rfl rfl ?_
          refine V_iconst C d_X3_outcomesOf_56 ?_
          refine V_aload_n (j := 0) C d_X3_outcomesOf_57 rfl rfl ?_
          refine V_getR C ck_0 fw_X3_48 d_X3_outcomesOf_58 h (fun v6 h => ?_)
          refine V_iload_n (j := 2) C d_X3_outcomesOf_61 rfl rfl ?_
          refine V_aald (t := 2) C tc_2 d_X3_outcomesOf_62 o_x3 h (fun v7 h => ?_)
          refine V_getI C ck_7 fw_X3_72 d_X3_outcomesOf_63 h (fun v8 o8 h => ?_)
          refine V_ishl C d_X3_outcomesOf_66 ?_
          refine V_ior C d_X3_outcomesOf_67 ?_
          refine V_istore_n (lv' := [(2, iv_i (or_i x2 (sl_i 1 v8))), (1, .ref (G.1 + x1)), (3, iv_i x3), (4, iv_i x4)]) C d_X3_outcomesOf_68 rfl (by decide) rfl ?_
          refine V_iinc (j := 3) (lv' := [(4, iv_i (wr_i (x4 + 1))), (2, iv_i (or_i x2 (sl_i 1 v8))), (1, .ref (G.1 + x1)), (3, iv_i x3)]) C d_X3_outcomesOf_69 rfl (by decide) rfl ?_
          refine V_goto (tgt := 17) C d_X3_outcomesOf_72 (by decide) ?_
          refine V_lv [2, 1, 3, 0] rfl (ih (or_i x2 (sl_i 1 v8)) (wr_i (x4 + 1)) (ok_I _) (ok_wr _) h)
      · skip
        refine V_iinc (j := 3) (lv' := [(4, iv_i (wr_i (x4 + 1))), (1, .ref (G.1 + x1)), (2, iv_i x2), (3, iv_i x3)]) C d_X3_outcomesOf_69 rfl (by decide) rfl ?_
        refine V_goto (tgt := 17) C d_X3_outcomesOf_72 (by decide) ?_
        refine V_lv [1, 2, 3, 0] rfl (ih x2 (wr_i (x4 + 1)) o_x2 (ok_wr _) h)
    · skip
      refine V_iinc (j := 2) (lv' := [(3, iv_i (wr_i (x3 + 1))), (1, .ref (G.1 + x1)), (2, iv_i x2), (4, iv_i x4)]) C d_X3_outcomesOf_75 rfl (by decide) rfl ?_
      refine V_goto (tgt := 6) C d_X3_outcomesOf_78 (by decide) ?_
      refine V_lv [1, 2, 0] rfl (hk_6 x2 (wr_i (x3 + 1)) o_x2 (ok_wr _) h)
set_option maxHeartbeats 4000000 in
set_option maxRecDepth 100000 in
theorem t_X3_outcomesOf_6 {X : XT_x} {G : GT_g} {z : Int} (C : Cx_ (K_X3_outcomesOf) X G) (hR : Rx_ X G (some .int)) (M : Mem_m) (x1 : Nat) : ∀ (n : Nat) (x2 : Int) (x3 : Int) (o_x2 : ok_i x2) (o_x3 : ok_i x3), f_X3_outcomesOf_6 G.2.2.2 M x1 n x2 x3 = some z → V_ (K_X3_outcomesOf) X G (Fq_ X G (Qi_ G M z)) M 6 [(1, .ref (G.1 + x1)), (2, iv_i x2), (3, iv_i x3)] [] := by
  intro n
  induction n with
  | zero => intro x2 x3 o_x2 o_x3 h; exact absurd h (by simp [f_X3_outcomesOf_6])
  | succ n ih =>
    intro x2 x3 o_x2 o_x3 h
    unfold f_X3_outcomesOf_6 at h
    refine V_iload_n (j := 2) C d_X3_outcomesOf_6 rfl rfl ?_
    refine V_aload_n (j := 0) C d_X3_outcomesOf_7 rfl rfl ?_
    refine V_getI C ck_0 fw_X3_43 d_X3_outcomesOf_8 h (fun v1 o1 h => ?_)
    refine V_icmp_ge (tgt := 81) C d_X3_outcomesOf_11 (by decide) o_x3 o1 h (fun h => ?_) (fun h => ?_)
    · skip
      refine V_iconst C d_X3_outcomesOf_14 ?_
      refine V_istore (lv' := [(4, iv_i 0), (1, .ref (G.1 + x1)), (2, iv_i x2), (3, iv_i x3)]) C d_X3_outcomesOf_15 (by decide) rfl ?_
      refine V_lv [1, 2, 3, 0] rfl (t_X3_outcomesOf_17 C hR M x1 x3 o_x3 (fun x2 x3 => f_X3_outcomesOf_6 G.2.2.2 M x1 n x2 x3) (fun x2 x3 o_x2 o_x3 h9 => ih x2 x3 o_x2 o_x3 h9) FU_ x2 0 o_x2 (okc rfl) h)
    · skip
      refine V_iload_n (j := 1) C d_X3_outcomesOf_81 rfl rfl ?_
      exact V_iret_r C hR d_X3_outcomesOf_82 o_x2 h
set_option maxHeartbeats 4000000 in
set_option maxRecDepth 100000 in
theorem t_X3_outcomesOf {X : XT_x} {G : GT_g} {M : Mem_m} {z : Int} (C : Cx_ (K_X3_outcomesOf) X G) (hR : Rx_ X G (some .int)) (x0 : Int) (x1 : Nat) (o_x0 : ok_i x0) (h : f_X3_outcomesOf G.2.2.2 M x0 x1 = some z) : V_ (K_X3_outcomesOf) X G (Fq_ X G (Qi_ G M z)) M 0 [(0, iv_i x0), (1, .ref (G.1 + x1))] [] := by
  unfold f_X3_outcomesOf at h
  refine V_iconst C d_X3_outcomesOf_0 ?_
  refine V_iload_n (j := 0) C d_X3_outcomesOf_1 rfl rfl ?_
  refine V_ishl C d_X3_outcomesOf_2 ?_
  refine V_istore_n (lv' := [(2, iv_i (sl_i 1 x0)), (0, iv_i x0), (1, .ref (G.1 + x1))]) C d_X3_outcomesOf_3 rfl (by decide) rfl ?_
  refine V_iconst C d_X3_outcomesOf_4 ?_
  refine V_istore_n (lv' := [(3, iv_i 0), (2, iv_i (sl_i 1 x0)), (0, iv_i x0), (1, .ref (G.1 + x1))]) C d_X3_outcomesOf_5 rfl (by decide) rfl ?_
  refine V_lv [3, 1, 0] rfl (t_X3_outcomesOf_6 C hR M x1 FU_ (sl_i 1 x0) 0 (ok_I _) (okc rfl) h)
set_option maxHeartbeats 4000000 in
set_option maxRecDepth 100000 in
theorem ct_X3_outcomesOf {l : Launch} {G : GT_g} {M : Mem_m} (x0 : Int) (x1 : Nat) (o_x0 : ok_i x0) {z : Int} (h : f_X3_outcomesOf G.2.2.2 M x0 x1 = some z) : MI_ l yX3_outcomesOf K_X3_outcomesOf (some .int) G M [iv_i x0, .ref (G.1 + x1)] M z :=
  met_of (by decide +kernel) rfl (Nat.le_of_ble_eq_true rfl) (fun X hl C hR => by subst hl; exact t_X3_outcomesOf C hR x0 x1 o_x0 h)
theorem d_X3_findChances_0 : decode cX3_findChances 0 = .ok (.iconst 0, 1) := by decide +kernel
theorem d_X3_findChances_1 : decode cX3_findChances 1 = .ok (.istore_n 3, 1) := by decide +kernel
theorem d_X3_findChances_2 : decode cX3_findChances 2 = .ok (.iload_n 3, 1) := by decide +kernel
theorem d_X3_findChances_3 : decode cX3_findChances 3 = .ok (.bipush 10, 2) := by decide +kernel
theorem d_X3_findChances_5 : decode cX3_findChances 5 = .ok (.if_icmp .ge 74, 3) := by decide +kernel
theorem d_X3_findChances_8 : decode cX3_findChances 8 = .ok (.iload_n 3, 1) := by decide +kernel
theorem d_X3_findChances_9 : decode cX3_findChances 9 = .ok (.aload_n 1, 1) := by decide +kernel
theorem d_X3_findChances_10 : decode cX3_findChances 10 = .ok (.invokestatic 117, 3) := by decide +kernel
theorem d_X3_findChances_13 : decode cX3_findChances 13 = .ok (.istore 4, 2) := by decide +kernel
theorem d_X3_findChances_15 : decode cX3_findChances 15 = .ok (.aload_n 0, 1) := by decide +kernel
theorem d_X3_findChances_16 : decode cX3_findChances 16 = .ok (.getfield 20, 3) := by decide +kernel
theorem d_X3_findChances_19 : decode cX3_findChances 19 = .ok (.iload_n 3, 1) := by decide +kernel
theorem d_X3_findChances_20 : decode cX3_findChances 20 = .ok (.iload 4, 2) := by decide +kernel
theorem d_X3_findChances_22 : decode cX3_findChances 22 = .ok (.ldc 121, 2) := by decide +kernel
theorem d_X3_findChances_24 : decode cX3_findChances 24 = .ok (.iand, 1) := by decide +kernel
theorem d_X3_findChances_25 : decode cX3_findChances 25 = .ok (.iastore, 1) := by decide +kernel
theorem d_X3_findChances_26 : decode cX3_findChances 26 = .ok (.iconst 0, 1) := by decide +kernel
theorem d_X3_findChances_27 : decode cX3_findChances 27 = .ok (.istore 5, 2) := by decide +kernel
theorem d_X3_findChances_29 : decode cX3_findChances 29 = .ok (.iload 5, 2) := by decide +kernel
theorem d_X3_findChances_31 : decode cX3_findChances 31 = .ok (.aload_n 2, 1) := by decide +kernel
theorem d_X3_findChances_32 : decode cX3_findChances 32 = .ok (.getfield 83, 3) := by decide +kernel
theorem d_X3_findChances_35 : decode cX3_findChances 35 = .ok (.if_icmp .ge 38, 3) := by decide +kernel
theorem d_X3_findChances_38 : decode cX3_findChances 38 = .ok (.iload 4, 2) := by decide +kernel
theorem d_X3_findChances_40 : decode cX3_findChances 40 = .ok (.aload_n 2, 1) := by decide +kernel
theorem d_X3_findChances_41 : decode cX3_findChances 41 = .ok (.getfield 114, 3) := by decide +kernel
theorem d_X3_findChances_44 : decode cX3_findChances 44 = .ok (.iload 5, 2) := by decide +kernel
theorem d_X3_findChances_46 : decode cX3_findChances 46 = .ok (.iaload, 1) := by decide +kernel
theorem d_X3_findChances_47 : decode cX3_findChances 47 = .ok (.ishr, 1) := by decide +kernel
theorem d_X3_findChances_48 : decode cX3_findChances 48 = .ok (.iconst 1, 1) := by decide +kernel
theorem d_X3_findChances_49 : decode cX3_findChances 49 = .ok (.iand, 1) := by decide +kernel
theorem d_X3_findChances_50 : decode cX3_findChances 50 = .ok (.iconst 1, 1) := by decide +kernel
theorem d_X3_findChances_51 : decode cX3_findChances 51 = .ok (.if_icmp .ne 16, 3) := by decide +kernel
theorem d_X3_findChances_54 : decode cX3_findChances 54 = .ok (.aload_n 0, 1) := by decide +kernel
theorem d_X3_findChances_55 : decode cX3_findChances 55 = .ok (.getfield 20, 3) := by decide +kernel
theorem d_X3_findChances_58 : decode cX3_findChances 58 = .ok (.iload_n 3, 1) := by decide +kernel
theorem d_X3_findChances_59 : decode cX3_findChances 59 = .ok (.dup2, 1) := by decide +kernel
theorem d_X3_findChances_60 : decode cX3_findChances 60 = .ok (.iaload, 1) := by decide +kernel
theorem d_X3_findChances_61 : decode cX3_findChances 61 = .ok (.iconst 1, 1) := by decide +kernel
theorem d_X3_findChances_62 : decode cX3_findChances 62 = .ok (.iload 5, 2) := by decide +kernel
theorem d_X3_findChances_64 : decode cX3_findChances 64 = .ok (.ishl, 1) := by decide +kernel
theorem d_X3_findChances_65 : decode cX3_findChances 65 = .ok (.ior, 1) := by decide +kernel
theorem d_X3_findChances_66 : decode cX3_findChances 66 = .ok (.iastore, 1) := by decide +kernel
theorem d_X3_findChances_67 : decode cX3_findChances 67 = .ok (.iinc 5 1, 3) := by decide +kernel
theorem d_X3_findChances_70 : decode cX3_findChances 70 = .ok (.goto (-41), 3) := by decide +kernel
theorem d_X3_findChances_73 : decode cX3_findChances 73 = .ok (.iinc 3 1, 3) := by decide +kernel
theorem d_X3_findChances_76 : decode cX3_findChances 76 = .ok (.goto (-74), 3) := by decide +kernel
theorem d_X3_findChances_79 : decode cX3_findChances 79 = .ok (.return_, 1) := by decide +kernel
set_option maxHeartbeats 4000000 in
set_option maxRecDepth 100000 in
theorem t_X3_findChances_29 {X : XT_x} {G : GT_g} {z : Mem_m} (C : Cx_ (K_X3_findChances) X G) (hR : Rx_ X G none) (x0 : Nat) (x1 : Nat) (x2 : Nat) (x3 : Int) (x4 : Int) (o_x3 : ok_i x3) (o_x4 : ok_i x4) (k_2 : Mem_m → Int → Option Mem_m) (hk_2 : ∀ (M : Mem_m) (x3 : Int) (o_x3 : ok_i x3), k_2 M x3 = some z → V_ (K_X3_findChances) X G (Fq_ X G (Qv_ G z)) M 2 [(0, .ref (G.1 + x0)), (1, .ref (G.1 + x1)), (2, .ref (G.1 + x2)), (3, iv_i x3)] []) : ∀ (n : Nat) (M : Mem_m) (x5 : Int) (o_x5 : ok_i x5), f_X3_findChances_29 G.2.2.2 k_2 x0 x1 x2 x3 x4 n M x5 = some z → V_ (K_X3_findChances) X G (Fq_ X G (Qv_ G z)) M 29 [(0, .ref (G.1 + x0)), (1, .ref (G.1 + x1)), (2, .ref (G.1 + x2)), (3, iv_i x3), (4, iv_i x4), (5, iv_i x5)] [] := by
  intro n
  induction n with
  | zero => intro M x5 o_x5 h; exact absurd h (by simp [f_X3_findChances_29])
  | succ n ih =>
    intro M x5 o_x5 h
    unfold f_X3_findChances_29 at h
    refine V_iload (j := 5) C d_X3_findChances_29 rfl ?_
    refine V_aload_n (j := 2) C d_X3_findChances_31 rfl rfl ?_
    refine V_getI C ck_10 fw_X3_83 d_X3_findChances_32 h (fun v1 o1 h => ?_)
    refine V_icmp_ge (tgt := 73) C d_X3_findChances_35 (by decide) o_x5 o1 h (fun h => ?_) (fun h => ?_)
    · skip
      refine V_iload (j := 4) C d_X3_findChances_38 rfl ?_
      refine V_aload_n (j := 2) C d_X3_findChances_40 rfl rfl ?_
      refine V_getR C ck_10 fw_X3_114 d_X3_findChances_41 h (fun v2 h => ?_)
      refine V_iload (j := 5) C d_X3_findChances_44 rfl ?_
      refine V_iald C d_X3_findChances_46 o_x5 h (fun v3 o3 h => ?_)
      refine V_ishr C d_X3_findChances_47 ?_
      refine V_iconst C d_X3_findChances_48 ?_
      refine V_iand C d_X3_findChances_49 ?_
      refine V_iconst C d_X3_findChances_50 ?_
      refine V_icmp_ne (tgt := 67) C d_X3_findChances_51 (by decide) (ok_I _) (okc rfl) h (fun h => ?_) (fun h => ?_)
      · skip
        refine V_aload_n (j := 0) C d_X3_findChances_54 rfl rfl ?_
        refine V_getR C ck_3 fw_X3_20 d_X3_findChances_55 h (fun v4 h => ?_)
        refine V_iload_n (j := 3) C d_X3_findChances_58 rfl rfl ?_
        refine V_dup2 C d_X3_findChances_59 rfl rfl ?_
        refine V_iald C d_X3_findChances_60 o_x3 h (fun v5 o5 h => ?_)
        refine V_iconst C d_X3_findChances_61 ?_
        refine V_iload (j := 5) C d_X3_findChances_62 rfl ?_
        refine V_ishl C d_X3_findChances_64 ?_
        refine V_ior C d_X3_findChances_65 ?_
        refine V_iast C d_X3_findChances_66 o_x3 (ok_I _) h (fun M6 h => ?_)
        refine V_iinc (j := 5) (lv' := [(5, iv_i (wr_i (x5 + 1))), (0, .ref (G.1 + x0)), (1, .ref (G.1 + x1)), (2, .ref (G.1 + x2)), (3, iv_i x3), (4, iv_i x4)]) C d_X3_findChances_67 rfl (by decide) rfl ?_
        refine V_goto (tgt := 29) C d_X3_findChances_70 (by decide) ?_
        refine V_lv [1, 2, 3, 4, 5, 0] rfl (ih M6 (wr_i (x5 + 1)) (ok_wr _) h)
      · skip
        refine V_iinc (j := 5) (lv' := [(5, iv_i (wr_i (x5 + 1))), (0, .ref (G.1 + x0)), (1, .ref (G.1 + x1)), (2, .ref (G.1 + x2)), (3, iv_i x3), (4, iv_i x4)]) C d_X3_findChances_67 rfl (by decide) rfl ?_
        refine V_goto (tgt := 29) C d_X3_findChances_70 (by decide) ?_
        refine V_lv [1, 2, 3, 4, 5, 0] rfl (ih M (wr_i (x5 + 1)) (ok_wr _) h)
    · skip
      refine V_iinc (j := 3) (lv' := [(3, iv_i (wr_i (x3 + 1))), (0, .ref (G.1 + x0)), (1, .ref (G.1 + x1)), (2, .ref (G.1 + x2)), (4, iv_i x4), (5, iv_i x5)]) C d_X3_findChances_73 rfl (by decide) rfl ?_
      refine V_goto (tgt := 2) C d_X3_findChances_76 (by decide) ?_
      refine V_lv [1, 2, 3, 0] rfl (hk_2 M (wr_i (x3 + 1)) (ok_wr _) h)
set_option maxHeartbeats 4000000 in
set_option maxRecDepth 100000 in
theorem t_X3_findChances_2 {X : XT_x} {G : GT_g} {z : Mem_m} (C : Cx_ (K_X3_findChances) X G) (hR : Rx_ X G none) (x0 : Nat) (x1 : Nat) (x2 : Nat) : ∀ (n : Nat) (M : Mem_m) (x3 : Int) (o_x3 : ok_i x3), f_X3_findChances_2 G.2.2.2 x0 x1 x2 n M x3 = some z → V_ (K_X3_findChances) X G (Fq_ X G (Qv_ G z)) M 2 [(0, .ref (G.1 + x0)), (1, .ref (G.1 + x1)), (2, .ref (G.1 + x2)), (3, iv_i x3)] [] := by
  intro n
  induction n with
  | zero => intro M x3 o_x3 h; exact absurd h (by simp [f_X3_findChances_2])
  | succ n ih =>
    intro M x3 o_x3 h
    unfold f_X3_findChances_2 at h
    refine V_iload_n (j := 3) C d_X3_findChances_2 rfl rfl ?_
    refine V_bipush (v := 10) C d_X3_findChances_3 rfl ?_
    refine V_icmp_ge (tgt := 79) C d_X3_findChances_5 (by decide) o_x3 (okc rfl) h (fun h => ?_) (fun h => ?_)
    · skip
      refine V_iload_n (j := 3) C d_X3_findChances_8 rfl rfl ?_
      refine V_aload_n (j := 1) C d_X3_findChances_9 rfl rfl ?_
      refine V_callSri (K' := K_X3_outcomesOf) (av := [iv_i x3, .ref (G.1 + x1)]) (rest := []) ys_X3_outcomesOf C (yk_X3_outcomesOf) l1_X3_117 (by decide) d_X3_findChances_10 (fun v hv => ct_X3_outcomesOf x3 x1 o_x3 hv) rfl rfl (Nat.le_of_ble_eq_true rfl) h (fun v1 o1 h => ?_)
      refine V_istore (lv' := [(4, iv_i v1), (0, .ref (G.1 + x0)), (1, .ref (G.1 + x1)), (2, .ref (G.1 + x2)), (3, iv_i x3)]) C d_X3_findChances_13 (by decide) rfl ?_
      refine V_aload_n (j := 1) C d_X3_findChances_15 rfl rfl ?_
      refine V_getR C ck_3 fw_X3_20 d_X3_findChances_16 h (fun v2 h => ?_)
      refine V_iload_n (j := 4) C d_X3_findChances_19 rfl rfl ?_
      refine V_iload (j := 0) C d_X3_findChances_20 rfl ?_
      refine V_ldc (v := 65536) C d_X3_findChances_22 cn_X3_121 ?_
      refine V_iand C d_X3_findChances_24 ?_
      refine V_iast C d_X3_findChances_25 o_x3 (ok_I _) h (fun M3 h => ?_)
      refine V_iconst C d_X3_findChances_26 ?_
      refine V_istore (lv' := [(5, iv_i 0), (4, iv_i v1), (0, .ref (G.1 + x0)), (1, .ref (G.1 + x1)), (2, .ref (G.1 + x2)), (3, iv_i x3)]) C d_X3_findChances_27 (by decide) rfl ?_
      refine V_lv [2, 3, 4, 5, 1, 0] rfl (t_X3_findChances_29 C hR x0 x1 x2 x3 v1 o_x3 o1 (fun M x3 => f_X3_findChances_2 G.2.2.2 x0 x1 x2 n M x3) (fun M x3 o_x3 h9 => ih M x3 o_x3 h9) FU_ M3 0 (okc rfl) h)
    · skip
      exact V_vret C hR d_X3_findChances_79 (Option.some.inj h)
set_option maxHeartbeats 4000000 in
set_option maxRecDepth 100000 in
theorem t_X3_findChances {X : XT_x} {G : GT_g} {M : Mem_m} {z : Mem_m} (C : Cx_ (K_X3_findChances) X G) (hR : Rx_ X G none) (x0 : Nat) (x1 : Nat) (x2 : Nat)  (h : f_X3_findChances G.2.2.2 M x0 x1 x2 = some z) : V_ (K_X3_findChances) X G (Fq_ X G (Qv_ G z)) M 0 [(0, .ref (G.1 + x0)), (1, .ref (G.1 + x1)), (2, .ref (G.1 + x2))] [] := by
  unfold f_X3_findChances at h
  refine V_iconst C d_X3_findChances_0 ?_
  refine V_istore_n (lv' := [(3, iv_i 0), (0, .ref (G.1 + x0)), (1, .ref (G.1 + x1)), (2, .ref (G.1 + x2))]) C d_X3_findChances_1 rfl (by decide) rfl ?_
  refine V_lv [1, 2, 3, 0] rfl (t_X3_findChances_2 C hR x0 x1 x2 FU_ M 0 (okc rfl) h)
set_option maxHeartbeats 4000000 in
set_option maxRecDepth 100000 in
theorem ct_X3_findChances {l : Launch} {G : GT_g} {M : Mem_m} (x0 : Nat) (x1 : Nat) (x2 : Nat)  {z : Mem_m} (h : f_X3_findChances G.2.2.2 M x0 x1 x2 = some z) : MV_ l yX3_findChances K_X3_findChances none G M [.ref (G.1 + x0), .ref (G.1 + x1), .ref (G.1 + x2)] z :=
  met_of (by decide +kernel) rfl (Nat.le_of_ble_eq_true rfl) (fun X hl C hR => by subst hl; exact t_X3_findChances C hR x0 x1 x2  h)
theorem d_X3_isSpelled_0 : decode cX3_isSpelled 0 = .ok (.aload_n 0, 1) := by decide +kernel
theorem d_X3_isSpelled_1 : decode cX3_isSpelled 1 = .ok (.iconst 0, 1) := by decide +kernel
theorem d_X3_isSpelled_2 : decode cX3_isSpelled 2 = .ok (.putfield 29, 3) := by decide +kernel
theorem d_X3_isSpelled_5 : decode cX3_isSpelled 5 = .ok (.iconst 0, 1) := by decide +kernel
theorem d_X3_isSpelled_6 : decode cX3_isSpelled 6 = .ok (.istore 4, 2) := by decide +kernel
theorem d_X3_isSpelled_8 : decode cX3_isSpelled 8 = .ok (.iload 4, 2) := by decide +kernel
theorem d_X3_isSpelled_10 : decode cX3_isSpelled 10 = .ok (.iload_n 3, 1) := by decide +kernel
theorem d_X3_isSpelled_11 : decode cX3_isSpelled 11 = .ok (.if_icmp .ge 95, 3) := by decide +kernel
theorem d_X3_isSpelled_14 : decode cX3_isSpelled 14 = .ok (.iload_n 2, 1) := by decide +kernel
theorem d_X3_isSpelled_15 : decode cX3_isSpelled 15 = .ok (.iconst 4, 1) := by decide +kernel
theorem d_X3_isSpelled_16 : decode cX3_isSpelled 16 = .ok (.iload_n 3, 1) := by decide +kernel
theorem d_X3_isSpelled_17 : decode cX3_isSpelled 17 = .ok (.iconst 1, 1) := by decide +kernel
theorem d_X3_isSpelled_18 : decode cX3_isSpelled 18 = .ok (.isub, 1) := by decide +kernel
theorem d_X3_isSpelled_19 : decode cX3_isSpelled 19 = .ok (.iload 4, 2) := by decide +kernel
theorem d_X3_isSpelled_21 : decode cX3_isSpelled 21 = .ok (.isub, 1) := by decide +kernel
theorem d_X3_isSpelled_22 : decode cX3_isSpelled 22 = .ok (.imul, 1) := by decide +kernel
theorem d_X3_isSpelled_23 : decode cX3_isSpelled 23 = .ok (.ishr, 1) := by decide +kernel
theorem d_X3_isSpelled_24 : decode cX3_isSpelled 24 = .ok (.bipush 15, 2) := by decide +kernel
theorem d_X3_isSpelled_26 : decode cX3_isSpelled 26 = .ok (.iand, 1) := by decide +kernel
theorem d_X3_isSpelled_27 : decode cX3_isSpelled 27 = .ok (.istore 5, 2) := by decide +kernel
theorem d_X3_isSpelled_29 : decode cX3_isSpelled 29 = .ok (.aload_n 1, 1) := by decide +kernel
theorem d_X3_isSpelled_30 : decode cX3_isSpelled 30 = .ok (.getfield 101, 3) := by decide +kernel
theorem d_X3_isSpelled_33 : decode cX3_isSpelled 33 = .ok (.iload 5, 2) := by decide +kernel
theorem d_X3_isSpelled_35 : decode cX3_isSpelled 35 = .ok (.ishr, 1) := by decide +kernel
theorem d_X3_isSpelled_36 : decode cX3_isSpelled 36 = .ok (.iconst 1, 1) := by decide +kernel
theorem d_X3_isSpelled_37 : decode cX3_isSpelled 37 = .ok (.iand, 1) := by decide +kernel
theorem d_X3_isSpelled_38 : decode cX3_isSpelled 38 = .ok (.ifCond .ne 5, 3) := by decide +kernel
theorem d_X3_isSpelled_41 : decode cX3_isSpelled 41 = .ok (.iconst 0, 1) := by decide +kernel
theorem d_X3_isSpelled_42 : decode cX3_isSpelled 42 = .ok (.ireturn, 1) := by decide +kernel
theorem d_X3_isSpelled_43 : decode cX3_isSpelled 43 = .ok (.aload_n 0, 1) := by decide +kernel
theorem d_X3_isSpelled_44 : decode cX3_isSpelled 44 = .ok (.getfield 17, 3) := by decide +kernel
theorem d_X3_isSpelled_47 : decode cX3_isSpelled 47 = .ok (.iload 4, 2) := by decide +kernel
theorem d_X3_isSpelled_49 : decode cX3_isSpelled 49 = .ok (.iload 5, 2) := by decide +kernel
theorem d_X3_isSpelled_51 : decode cX3_isSpelled 51 = .ok (.iastore, 1) := by decide +kernel
theorem d_X3_isSpelled_52 : decode cX3_isSpelled 52 = .ok (.aload_n 1, 1) := by decide +kernel
theorem d_X3_isSpelled_53 : decode cX3_isSpelled 53 = .ok (.getfield 104, 3) := by decide +kernel
theorem d_X3_isSpelled_56 : decode cX3_isSpelled 56 = .ok (.iload 5, 2) := by decide +kernel
theorem d_X3_isSpelled_58 : decode cX3_isSpelled 58 = .ok (.aaload, 1) := by decide +kernel
theorem d_X3_isSpelled_59 : decode cX3_isSpelled 59 = .ok (.getfield 108, 3) := by decide +kernel
theorem d_X3_isSpelled_62 : decode cX3_isSpelled 62 = .ok (.astore 6, 2) := by decide +kernel
theorem d_X3_isSpelled_64 : decode cX3_isSpelled 64 = .ok (.aload 6, 2) := by decide +kernel
theorem d_X3_isSpelled_66 : decode cX3_isSpelled 66 = .ok (.getfield 114, 3) := by decide +kernel
theorem d_X3_isSpelled_69 : decode cX3_isSpelled 69 = .ok (.iconst 0, 1) := by decide +kernel
theorem d_X3_isSpelled_70 : decode cX3_isSpelled 70 = .ok (.aload_n 0, 1) := by decide +kernel
theorem d_X3_isSpelled_71 : decode cX3_isSpelled 71 = .ok (.getfield 11, 3) := by decide +kernel
theorem d_X3_isSpelled_74 : decode cX3_isSpelled 74 = .ok (.aload_n 0, 1) := by decide +kernel
theorem d_X3_isSpelled_75 : decode cX3_isSpelled 75 = .ok (.getfield 29, 3) := by decide +kernel
theorem d_X3_isSpelled_78 : decode cX3_isSpelled 78 = .ok (.aload 6, 2) := by decide +kernel
theorem d_X3_isSpelled_80 : decode cX3_isSpelled 80 = .ok (.getfield 83, 3) := by decide +kernel
theorem d_X3_isSpelled_83 : decode cX3_isSpelled 83 = .ok (.invokestatic 33, 3) := by decide +kernel
theorem d_X3_isSpelled_86 : decode cX3_isSpelled 86 = .ok (.aload_n 0, 1) := by decide +kernel
theorem d_X3_isSpelled_87 : decode cX3_isSpelled 87 = .ok (.dup, 1) := by decide +kernel
theorem d_X3_isSpelled_88 : decode cX3_isSpelled 88 = .ok (.getfield 29, 3) := by decide +kernel
theorem d_X3_isSpelled_91 : decode cX3_isSpelled 91 = .ok (.aload 6, 2) := by decide +kernel
theorem d_X3_isSpelled_93 : decode cX3_isSpelled 93 = .ok (.getfield 83, 3) := by decide +kernel
theorem d_X3_isSpelled_96 : decode cX3_isSpelled 96 = .ok (.iadd, 1) := by decide +kernel
theorem d_X3_isSpelled_97 : decode cX3_isSpelled 97 = .ok (.putfield 29, 3) := by decide +kernel
theorem d_X3_isSpelled_100 : decode cX3_isSpelled 100 = .ok (.iinc 4 1, 3) := by decide +kernel
theorem d_X3_isSpelled_103 : decode cX3_isSpelled 103 = .ok (.goto (-95), 3) := by decide +kernel
theorem d_X3_isSpelled_106 : decode cX3_isSpelled 106 = .ok (.iconst 1, 1) := by decide +kernel
theorem d_X3_isSpelled_107 : decode cX3_isSpelled 107 = .ok (.ireturn, 1) := by decide +kernel
set_option maxHeartbeats 4000000 in
set_option maxRecDepth 100000 in
theorem t_X3_isSpelled_8 {X : XT_x} {G : GT_g} {z : (Mem_m × Int)} (C : Cx_ (K_X3_isSpelled) X G) (hR : Rx_ X G (some .boolean)) (x0 : Nat) (x1 : Nat) (x2 : Int) (x3 : Int) (o_x2 : ok_i x2) (o_x3 : ok_i x3) : ∀ (n : Nat) (M : Mem_m) (x4 : Int) (o_x4 : ok_i x4), f_X3_isSpelled_8 G.2.2.2 x0 x1 x2 x3 n M x4 = some z → V_ (K_X3_isSpelled) X G (Fq_ X G (Qi_ G z.1 z.2)) M 8 [(0, .ref (G.1 + x0)), (1, .ref (G.1 + x1)), (2, iv_i x2), (3, iv_i x3), (4, iv_i x4)] [] := by
  intro n
  induction n with
  | zero => intro M x4 o_x4 h; exact absurd h (by simp [f_X3_isSpelled_8])
  | succ n ih =>
    intro M x4 o_x4 h
    unfold f_X3_isSpelled_8 at h
    refine V_iload (j := 4) C d_X3_isSpelled_8 rfl ?_
    refine V_iload_n (j := 3) C d_X3_isSpelled_10 rfl rfl ?_
    refine V_icmp_ge (tgt := 106) C d_X3_isSpelled_11 (by decide) o_x4 o_x3 h (fun h => ?_) (fun h => ?_)
    · skip
      refine V_iload_n (j := 2) C d_X3_isSpelled_14 rfl rfl ?_
      refine V_iconst C d_X3_isSpelled_15 ?_
      refine V_iload_n (j := 3) C d_X3_isSpelled_16 rfl rfl ?_
      refine V_iconst C d_X3_isSpelled_17 ?_
      refine V_isub C d_X3_isSpelled_18 ?_
      refine V_iload (j := 4) C d_X3_isSpelled_19 rfl ?_
      refine V_isub C d_X3_isSpelled_21 ?_
      refine V_imul C d_X3_isSpelled_22 ?_
      refine V_ishr C d_X3_isSpelled_23 ?_
      refine V_bipush (v := 15) C d_X3_isSpelled_24 rfl ?_
      refine V_iand C d_X3_isSpelled_26 ?_
      refine V_istore (lv' := [(5, iv_i (an_i (sr_i x2 (wr_i (4 * (wr_i ((wr_i (x3 - 1)) - x4))))) 15)), (0, .ref (G.1 + x0)), (1, .ref (G.1 + x1)), (2, iv_i x2), (3, iv_i x3), (4, iv_i x4)]) C d_X3_isSpelled_27 (by decide) rfl ?_
      refine V_aload_n (j := 2) C d_X3_isSpelled_29 rfl rfl ?_
      refine V_getI C ck_0 fw_X3_101 d_X3_isSpelled_30 h (fun v1 o1 h => ?_)
      refine V_iload (j := 0) C d_X3_isSpelled_33 rfl ?_
      refine V_ishr C d_X3_isSpelled_35 ?_
      refine V_iconst C d_X3_isSpelled_36 ?_
      refine V_iand C d_X3_isSpelled_37 ?_
      refine V_if_ne (tgt := 43) C d_X3_isSpelled_38 (by decide) (ok_I _) h (fun h => ?_) (fun h => ?_)
      · skip
        refine V_iconst C d_X3_isSpelled_41 ?_
        exact V_zret_w C hR d_X3_isSpelled_42 (Or.inl rfl) h
      · skip
        refine V_aload_n (j := 1) C d_X3_isSpelled_43 rfl rfl ?_
        refine V_getR C ck_3 fw_X3_17 d_X3_isSpelled_44 h (fun v2 h => ?_)
        refine V_iload (j := 5) C d_X3_isSpelled_47 rfl ?_
        refine V_iload (j := 0) C d_X3_isSpelled_49 rfl ?_
        refine V_iast C d_X3_isSpelled_51 o_x4 (ok_I _) h (fun M3 h => ?_)
        refine V_aload_n (j := 2) C d_X3_isSpelled_52 rfl rfl ?_
        refine V_getR C ck_0 fw_X3_104 d_X3_isSpelled_53 h (fun v4 h => ?_)
        refine V_iload (j := 0) C d_X3_isSpelled_56 rfl ?_
        refine V_aald (t := 1) C tc_1 d_X3_isSpelled_58 (ok_I _) h (fun v5 h => ?_)
        refine V_getR C ck_5 fw_X3_108 d_X3_isSpelled_59 h (fun v6 h => ?_)
        refine V_astore (lv' := [(6, .ref (G.1 + v6)), (5, iv_i (an_i (sr_i x2 (wr_i (4 * (wr_i ((wr_i (x3 - 1)) - x4))))) 15)), (0, .ref (G.1 + x0)), (1, .ref (G.1 + x1)), (2, iv_i x2), (3, iv_i x3), (4, iv_i x4)]) C d_X3_isSpelled_62 (by decide) rfl ?_
        refine V_aload (j := 0) C d_X3_isSpelled_64 rfl ?_
        refine V_getR C ck_10 fw_X3_114 d_X3_isSpelled_66 h (fun v7 h => ?_)
        refine V_iconst C d_X3_isSpelled_69 ?_
        refine V_aload_n (j := 2) C d_X3_isSpelled_70 rfl rfl ?_
        refine V_getR C ck_3 fw_X3_11 d_X3_isSpelled_71 h (fun v8 h => ?_)
        refine V_aload_n (j := 2) C d_X3_isSpelled_74 rfl rfl ?_
        refine V_getI C ck_3 fw_X3_29 d_X3_isSpelled_75 h (fun v9 o9 h => ?_)
        refine V_aload (j := 0) C d_X3_isSpelled_78 rfl ?_
        refine V_getI C ck_10 fw_X3_83 d_X3_isSpelled_80 h (fun v10 o10 h => ?_)
        refine V_copy C l1_X3_33 ac_ok (by decide) (Nat.le_of_ble_eq_true rfl) d_X3_isSpelled_83 (okc rfl) o9 o10 h (fun M11 h => ?_)
        refine V_aload_n (j := 2) C d_X3_isSpelled_86 rfl rfl ?_
        refine V_dup C d_X3_isSpelled_87 rfl ?_
        refine V_getI C ck_3 fw_X3_29 d_X3_isSpelled_88 h (fun v12 o12 h => ?_)
        refine V_aload (j := 0) C d_X3_isSpelled_91 rfl ?_
        refine V_getI C ck_10 fw_X3_83 d_X3_isSpelled_93 h (fun v13 o13 h => ?_)
        refine V_iadd C d_X3_isSpelled_96 ?_
        refine V_putI C ck_3 fw_X3_29 fp_3_1 d_X3_isSpelled_97 (ok_wr _) h (fun M14 h => ?_)
        refine V_iinc (j := 6) (lv' := [(4, iv_i (wr_i (x4 + 1))), (6, .ref (G.1 + v6)), (5, iv_i (an_i (sr_i x2 (wr_i (4 * (wr_i ((wr_i (x3 - 1)) - x4))))) 15)), (0, .ref (G.1 + x0)), (1, .ref (G.1 + x1)), (2, iv_i x2), (3, iv_i x3)]) C d_X3_isSpelled_100 rfl (by decide) rfl ?_
        refine V_goto (tgt := 8) C d_X3_isSpelled_103 (by decide) ?_
        refine V_lv [3, 4, 5, 6, 0] rfl (ih M14 (wr_i (x4 + 1)) (ok_wr _) h)
    · skip
      refine V_iconst C d_X3_isSpelled_106 ?_
      exact V_zret_w C hR d_X3_isSpelled_107 (Or.inr rfl) h
set_option maxHeartbeats 4000000 in
set_option maxRecDepth 100000 in
theorem t_X3_isSpelled {X : XT_x} {G : GT_g} {M : Mem_m} {z : (Mem_m × Int)} (C : Cx_ (K_X3_isSpelled) X G) (hR : Rx_ X G (some .boolean)) (x0 : Nat) (x1 : Nat) (x2 : Int) (x3 : Int) (o_x2 : ok_i x2) (o_x3 : ok_i x3) (h : f_X3_isSpelled G.2.2.2 M x0 x1 x2 x3 = some z) : V_ (K_X3_isSpelled) X G (Fq_ X G (Qi_ G z.1 z.2)) M 0 [(0, .ref (G.1 + x0)), (1, .ref (G.1 + x1)), (2, iv_i x2), (3, iv_i x3)] [] := by
  unfold f_X3_isSpelled at h
  refine V_aload_n (j := 0) C d_X3_isSpelled_0 rfl rfl ?_
  refine V_iconst C d_X3_isSpelled_1 ?_
  refine V_putI C ck_3 fw_X3_29 fp_3_1 d_X3_isSpelled_2 (okc rfl) h (fun M1 h => ?_)
  refine V_iconst C d_X3_isSpelled_5 ?_
  refine V_istore (lv' := [(4, iv_i 0), (0, .ref (G.1 + x0)), (1, .ref (G.1 + x1)), (2, iv_i x2), (3, iv_i x3)]) C d_X3_isSpelled_6 (by decide) rfl ?_
  refine V_lv [1, 2, 3, 4, 0] rfl (t_X3_isSpelled_8 C hR x0 x1 x2 x3 o_x2 o_x3 FU_ M1 0 (okc rfl) h)
set_option maxHeartbeats 4000000 in
set_option maxRecDepth 100000 in
theorem ct_X3_isSpelled {l : Launch} {G : GT_g} {M : Mem_m} (x0 : Nat) (x1 : Nat) (x2 : Int) (x3 : Int) (o_x2 : ok_i x2) (o_x3 : ok_i x3) {z : (Mem_m × Int)} (h : f_X3_isSpelled G.2.2.2 M x0 x1 x2 x3 = some z) : MI_ l yX3_isSpelled K_X3_isSpelled (some .boolean) G M [.ref (G.1 + x0), .ref (G.1 + x1), iv_i x2, iv_i x3] z.1 z.2 :=
  met_of (by decide +kernel) rfl (Nat.le_of_ble_eq_true rfl) (fun X hl C hR => by subst hl; exact t_X3_isSpelled C hR x0 x1 x2 x3 o_x2 o_x3 h)
theorem d_X3_hasChance_0 : decode cX3_hasChance 0 = .ok (.iconst 1, 1) := by decide +kernel
theorem d_X3_hasChance_1 : decode cX3_hasChance 1 = .ok (.istore_n 2, 1) := by decide +kernel
theorem d_X3_hasChance_2 : decode cX3_hasChance 2 = .ok (.iconst 0, 1) := by decide +kernel
theorem d_X3_hasChance_3 : decode cX3_hasChance 3 = .ok (.istore_n 3, 1) := by decide +kernel
theorem d_X3_hasChance_4 : decode cX3_hasChance 4 = .ok (.iload_n 3, 1) := by decide +kernel
theorem d_X3_hasChance_5 : decode cX3_hasChance 5 = .ok (.aload_n 0, 1) := by decide +kernel
theorem d_X3_hasChance_6 : decode cX3_hasChance 6 = .ok (.getfield 29, 3) := by decide +kernel
theorem d_X3_hasChance_9 : decode cX3_hasChance 9 = .ok (.if_icmp .ge 47, 3) := by decide +kernel
theorem d_X3_hasChance_12 : decode cX3_hasChance 12 = .ok (.aload_n 0, 1) := by decide +kernel
theorem d_X3_hasChance_13 : decode cX3_hasChance 13 = .ok (.getfield 20, 3) := by decide +kernel
theorem d_X3_hasChance_16 : decode cX3_hasChance 16 = .ok (.aload_n 0, 1) := by decide +kernel
theorem d_X3_hasChance_17 : decode cX3_hasChance 17 = .ok (.getfield 11, 3) := by decide +kernel
theorem d_X3_hasChance_20 : decode cX3_hasChance 20 = .ok (.iload_n 3, 1) := by decide +kernel
theorem d_X3_hasChance_21 : decode cX3_hasChance 21 = .ok (.iaload, 1) := by decide +kernel
theorem d_X3_hasChance_22 : decode cX3_hasChance 22 = .ok (.iaload, 1) := by decide +kernel
theorem d_X3_hasChance_23 : decode cX3_hasChance 23 = .ok (.istore 4, 2) := by decide +kernel
theorem d_X3_hasChance_25 : decode cX3_hasChance 25 = .ok (.iload 4, 2) := by decide +kernel
theorem d_X3_hasChance_27 : decode cX3_hasChance 27 = .ok (.ldc 121, 2) := by decide +kernel
theorem d_X3_hasChance_29 : decode cX3_hasChance 29 = .ok (.iand, 1) := by decide +kernel
theorem d_X3_hasChance_30 : decode cX3_hasChance 30 = .ok (.ifCond .eq 7, 3) := by decide +kernel
theorem d_X3_hasChance_33 : decode cX3_hasChance 33 = .ok (.iload_n 2, 1) := by decide +kernel
theorem d_X3_hasChance_34 : decode cX3_hasChance 34 = .ok (.goto 4, 3) := by decide +kernel
theorem d_X3_hasChance_37 : decode cX3_hasChance 37 = .ok (.iconst 0, 1) := by decide +kernel
theorem d_X3_hasChance_38 : decode cX3_hasChance 38 = .ok (.istore 5, 2) := by decide +kernel
theorem d_X3_hasChance_40 : decode cX3_hasChance 40 = .ok (.iload 5, 2) := by decide +kernel
theorem d_X3_hasChance_42 : decode cX3_hasChance 42 = .ok (.iload_n 2, 1) := by decide +kernel
theorem d_X3_hasChance_43 : decode cX3_hasChance 43 = .ok (.iload 4, 2) := by decide +kernel
theorem d_X3_hasChance_45 : decode cX3_hasChance 45 = .ok (.iand, 1) := by decide +kernel
theorem d_X3_hasChance_46 : decode cX3_hasChance 46 = .ok (.iconst 1, 1) := by decide +kernel
theorem d_X3_hasChance_47 : decode cX3_hasChance 47 = .ok (.ishl, 1) := by decide +kernel
theorem d_X3_hasChance_48 : decode cX3_hasChance 48 = .ok (.ior, 1) := by decide +kernel
theorem d_X3_hasChance_49 : decode cX3_hasChance 49 = .ok (.istore_n 2, 1) := by decide +kernel
theorem d_X3_hasChance_50 : decode cX3_hasChance 50 = .ok (.iinc 3 1, 3) := by decide +kernel
theorem d_X3_hasChance_53 : decode cX3_hasChance 53 = .ok (.goto (-49), 3) := by decide +kernel
theorem d_X3_hasChance_56 : decode cX3_hasChance 56 = .ok (.iload_n 2, 1) := by decide +kernel
theorem d_X3_hasChance_57 : decode cX3_hasChance 57 = .ok (.iload_n 1, 1) := by decide +kernel
theorem d_X3_hasChance_58 : decode cX3_hasChance 58 = .ok (.ishr, 1) := by decide +kernel
theorem d_X3_hasChance_59 : decode cX3_hasChance 59 = .ok (.iconst 1, 1) := by decide +kernel
theorem d_X3_hasChance_60 : decode cX3_hasChance 60 = .ok (.iand, 1) := by decide +kernel
theorem d_X3_hasChance_61 : decode cX3_hasChance 61 = .ok (.iconst 1, 1) := by decide +kernel
theorem d_X3_hasChance_62 : decode cX3_hasChance 62 = .ok (.if_icmp .ne 7, 3) := by decide +kernel
theorem d_X3_hasChance_65 : decode cX3_hasChance 65 = .ok (.iconst 1, 1) := by decide +kernel
theorem d_X3_hasChance_66 : decode cX3_hasChance 66 = .ok (.goto 4, 3) := by decide +kernel
theorem d_X3_hasChance_69 : decode cX3_hasChance 69 = .ok (.iconst 0, 1) := by decide +kernel
theorem d_X3_hasChance_70 : decode cX3_hasChance 70 = .ok (.ireturn, 1) := by decide +kernel
set_option maxHeartbeats 4000000 in
set_option maxRecDepth 100000 in
theorem t_X3_hasChance_38 {X : XT_x} {G : GT_g} {z : Int} (C : Cx_ (K_X3_hasChance) X G) (hR : Rx_ X G (some .boolean)) (M : Mem_m) (x0 : Nat) (x1 : Int) (x2 : Int) (x3 : Int) (x4 : Int) (s0 : Int) (o_x1 : ok_i x1) (o_x2 : ok_i x2) (o_x3 : ok_i x3) (o_x4 : ok_i x4) (o_s0 : ok_i s0) (k_4 : Int → Int → Option Int) (hk_4 : ∀ (x2 : Int) (x3 : Int) (o_x2 : ok_i x2) (o_x3 : ok_i x3), k_4 x2 x3 = some z → V_ (K_X3_hasChance) X G (Fq_ X G (Qi_ G M z)) M 4 [(0, .ref (G.1 + x0)), (1, iv_i x1), (2, iv_i x2), (3, iv_i x3)] []) (h : f_X3_hasChance_38 G.2.2.2 k_4 M x0 x1 x2 x3 x4 s0 = some z) : V_ (K_X3_hasChance) X G (Fq_ X G (Qi_ G M z)) M 38 [(0, .ref (G.1 + x0)), (1, iv_i x1), (2, iv_i x2), (3, iv_i x3), (4, iv_i x4)] [iv_i s0] := by
  unfold f_X3_hasChance_38 at h
  refine V_istore (lv' := [(5, iv_i s0), (0, .ref (G.1 + x0)), (1, iv_i x1), (2, iv_i x2), (3, iv_i x3), (4, iv_i x4)]) C d_X3_hasChance_38 (by decide) rfl ?_
  refine V_iload (j := 0) C d_X3_hasChance_40 rfl ?_
  refine V_iload_n (j := 3) C d_X3_hasChance_42 rfl rfl ?_
  refine V_iload (j := 5) C d_X3_hasChance_43 rfl ?_
  refine V_iand C d_X3_hasChance_45 ?_
  refine V_iconst C d_X3_hasChance_46 ?_
  refine V_ishl C d_X3_hasChance_47 ?_
  refine V_ior C d_X3_hasChance_48 ?_
  refine V_istore_n (lv' := [(2, iv_i (or_i s0 (sl_i (an_i x2 x4) 1))), (5, iv_i s0), (0, .ref (G.1 + x0)), (1, iv_i x1), (3, iv_i x3), (4, iv_i x4)]) C d_X3_hasChance_49 rfl (by decide) rfl ?_
  refine V_iinc (j := 4) (lv' := [(3, iv_i (wr_i (x3 + 1))), (2, iv_i (or_i s0 (sl_i (an_i x2 x4) 1))), (5, iv_i s0), (0, .ref (G.1 + x0)), (1, iv_i x1), (4, iv_i x4)]) C d_X3_hasChance_50 rfl (by decide) rfl ?_
  refine V_goto (tgt := 4) C d_X3_hasChance_53 (by decide) ?_
  refine V_lv [3, 4, 1, 0] rfl (hk_4 (or_i s0 (sl_i (an_i x2 x4) 1)) (wr_i (x3 + 1)) (ok_I _) (ok_wr _) h)
set_option maxHeartbeats 4000000 in
set_option maxRecDepth 100000 in
theorem t_X3_hasChance_4 {X : XT_x} {G : GT_g} {z : Int} (C : Cx_ (K_X3_hasChance) X G) (hR : Rx_ X G (some .boolean)) (M : Mem_m) (x0 : Nat) (x1 : Int) (o_x1 : ok_i x1) : ∀ (n : Nat) (x2 : Int) (x3 : Int) (o_x2 : ok_i x2) (o_x3 : ok_i x3), f_X3_hasChance_4 G.2.2.2 M x0 x1 n x2 x3 = some z → V_ (K_X3_hasChance) X G (Fq_ X G (Qi_ G M z)) M 4 [(0, .ref (G.1 + x0)), (1, iv_i x1), (2, iv_i x2), (3, iv_i x3)] [] := by
  intro n
  induction n with
  | zero => intro x2 x3 o_x2 o_x3 h; exact absurd h (by simp [f_X3_hasChance_4])
  | succ n ih =>
    intro x2 x3 o_x2 o_x3 h
    unfold f_X3_hasChance_4 at h
    refine V_iload_n (j := 3) C d_X3_hasChance_4 rfl rfl ?_
    refine V_aload_n (j := 0) C d_X3_hasChance_5 rfl rfl ?_
    refine V_getI C ck_3 fw_X3_29 d_X3_hasChance_6 h (fun v1 o1 h => ?_)
    refine V_icmp_ge (tgt := 56) C d_X3_hasChance_9 (by decide) o_x3 o1 h (fun h => ?_) (fun h => ?_)
    · skip
      refine V_aload_n (j := 0) C d_X3_hasChance_12 rfl rfl ?_
      refine V_getR C ck_3 fw_X3_20 d_X3_hasChance_13 h (fun v2 h => ?_)
      refine V_aload_n (j := 0) C d_X3_hasChance_16 rfl rfl ?_
      refine V_getR C ck_3 fw_X3_11 d_X3_hasChance_17 h (fun v3 h => ?_)
      refine V_iload_n (j := 3) C d_X3_hasChance_20 rfl rfl ?_
      refine V_iald C d_X3_hasChance_21 o_x3 h (fun v4 o4 h => ?_)
      refine V_iald C d_X3_hasChance_22 o4 h (fun v5 o5 h => ?_)
      refine V_istore (lv' := [(4, iv_i v5), (0, .ref (G.1 + x0)), (1, iv_i x1), (2, iv_i x2), (3, iv_i x3)]) C d_X3_hasChance_23 (by decide) rfl ?_
      refine V_iload (j := 0) C d_X3_hasChance_25 rfl ?_
      refine V_ldc (v := 65536) C d_X3_hasChance_27 cn_X3_121 ?_
      refine V_iand C d_X3_hasChance_29 ?_
      refine V_if_eq (tgt := 37) C d_X3_hasChance_30 (by decide) (ok_I _) h (fun h => ?_) (fun h => ?_)
      · skip
        refine V_iconst C d_X3_hasChance_37 ?_
        refine V_lv [1, 2, 3, 4, 0] rfl (t_X3_hasChance_38 C hR M x0 x1 x2 x3 v5 0 o_x1 o_x2 o_x3 o5 (okc rfl) (fun x2 x3 => f_X3_hasChance_4 G.2.2.2 M x0 x1 n x2 x3) (fun x2 x3 o_x2 o_x3 h9 => ih x2 x3 o_x2 o_x3 h9) h)
      · skip
        refine V_iload_n (j := 3) C d_X3_hasChance_33 rfl rfl ?_
        refine V_goto (tgt := 38) C d_X3_hasChance_34 (by decide) ?_
        refine V_lv [1, 2, 3, 4, 0] rfl (t_X3_hasChance_38 C hR M x0 x1 x2 x3 v5 x2 o_x1 o_x2 o_x3 o5 o_x2 (fun x2 x3 => f_X3_hasChance_4 G.2.2.2 M x0 x1 n x2 x3) (fun x2 x3 o_x2 o_x3 h9 => ih x2 x3 o_x2 o_x3 h9) h)
    · skip
      refine V_iload_n (j := 2) C d_X3_hasChance_56 rfl rfl ?_
      refine V_iload_n (j := 1) C d_X3_hasChance_57 rfl rfl ?_
      refine V_ishr C d_X3_hasChance_58 ?_
      refine V_iconst C d_X3_hasChance_59 ?_
      refine V_iand C d_X3_hasChance_60 ?_
      refine V_iconst C d_X3_hasChance_61 ?_
      refine V_icmp_ne (tgt := 69) C d_X3_hasChance_62 (by decide) (ok_I _) (okc rfl) h (fun h => ?_) (fun h => ?_)
      · skip
        refine V_iconst C d_X3_hasChance_65 ?_
        refine V_goto (tgt := 70) C d_X3_hasChance_66 (by decide) ?_
        exact V_zret_r C hR d_X3_hasChance_70 (Or.inr rfl) h
      · skip
        refine V_iconst C d_X3_hasChance_69 ?_
        exact V_zret_r C hR d_X3_hasChance_70 (Or.inl rfl) h
set_option maxHeartbeats 4000000 in
set_option maxRecDepth 100000 in
theorem t_X3_hasChance {X : XT_x} {G : GT_g} {M : Mem_m} {z : Int} (C : Cx_ (K_X3_hasChance) X G) (hR : Rx_ X G (some .boolean)) (x0 : Nat) (x1 : Int) (o_x1 : ok_i x1) (h : f_X3_hasChance G.2.2.2 M x0 x1 = some z) : V_ (K_X3_hasChance) X G (Fq_ X G (Qi_ G M z)) M 0 [(0, .ref (G.1 + x0)), (1, iv_i x1)] [] := by
  unfold f_X3_hasChance at h
  refine V_iconst C d_X3_hasChance_0 ?_
  refine V_istore_n (lv' := [(2, iv_i 1), (0, .ref (G.1 + x0)), (1, iv_i x1)]) C d_X3_hasChance_1 rfl (by decide) rfl ?_
  refine V_iconst C d_X3_hasChance_2 ?_
  refine V_istore_n (lv' := [(3, iv_i 0), (2, iv_i 1), (0, .ref (G.1 + x0)), (1, iv_i x1)]) C d_X3_hasChance_3 rfl (by decide) rfl ?_
  refine V_lv [2, 3, 1, 0] rfl (t_X3_hasChance_4 C hR M x0 x1 o_x1 FU_ 1 0 (okc rfl) (okc rfl) h)
set_option maxHeartbeats 4000000 in
set_option maxRecDepth 100000 in
theorem ct_X3_hasChance {l : Launch} {G : GT_g} {M : Mem_m} (x0 : Nat) (x1 : Int) (o_x1 : ok_i x1) {z : Int} (h : f_X3_hasChance G.2.2.2 M x0 x1 = some z) : MI_ l yX3_hasChance K_X3_hasChance (some .boolean) G M [.ref (G.1 + x0), iv_i x1] M z :=
  met_of (by decide +kernel) rfl (Nat.le_of_ble_eq_true rfl) (fun X hl C hR => by subst hl; exact t_X3_hasChance C hR x0 x1 o_x1 h)
theorem d_X3_isRowLike_0 : decode cX3_isRowLike 0 = .ok (.aload_n 0, 1) := by decide +kernel
theorem d_X3_isRowLike_1 : decode cX3_isRowLike 1 = .ok (.getfield 29, 3) := by decide +kernel
theorem d_X3_isRowLike_4 : decode cX3_isRowLike 4 = .ok (.aload_n 1, 1) := by decide +kernel
theorem d_X3_isRowLike_5 : decode cX3_isRowLike 5 = .ok (.getfield 83, 3) := by decide +kernel
theorem d_X3_isRowLike_8 : decode cX3_isRowLike 8 = .ok (.if_icmp .eq 5, 3) := by decide +kernel
theorem d_X3_isRowLike_11 : decode cX3_isRowLike 11 = .ok (.iconst 0, 1) := by decide +kernel
theorem d_X3_isRowLike_12 : decode cX3_isRowLike 12 = .ok (.ireturn, 1) := by decide +kernel
theorem d_X3_isRowLike_13 : decode cX3_isRowLike 13 = .ok (.iconst 0, 1) := by decide +kernel
theorem d_X3_isRowLike_14 : decode cX3_isRowLike 14 = .ok (.istore_n 2, 1) := by decide +kernel
theorem d_X3_isRowLike_15 : decode cX3_isRowLike 15 = .ok (.iload_n 2, 1) := by decide +kernel
theorem d_X3_isRowLike_16 : decode cX3_isRowLike 16 = .ok (.aload_n 0, 1) := by decide +kernel
theorem d_X3_isRowLike_17 : decode cX3_isRowLike 17 = .ok (.getfield 29, 3) := by decide +kernel
theorem d_X3_isRowLike_20 : decode cX3_isRowLike 20 = .ok (.if_icmp .ge 26, 3) := by decide +kernel
theorem d_X3_isRowLike_23 : decode cX3_isRowLike 23 = .ok (.aload_n 0, 1) := by decide +kernel
theorem d_X3_isRowLike_24 : decode cX3_isRowLike 24 = .ok (.getfield 11, 3) := by decide +kernel
theorem d_X3_isRowLike_27 : decode cX3_isRowLike 27 = .ok (.iload_n 2, 1) := by decide +kernel
theorem d_X3_isRowLike_28 : decode cX3_isRowLike 28 = .ok (.iaload, 1) := by decide +kernel
theorem d_X3_isRowLike_29 : decode cX3_isRowLike 29 = .ok (.aload_n 1, 1) := by decide +kernel
theorem d_X3_isRowLike_30 : decode cX3_isRowLike 30 = .ok (.getfield 114, 3) := by decide +kernel
theorem d_X3_isRowLike_33 : decode cX3_isRowLike 33 = .ok (.iload_n 2, 1) := by decide +kernel
theorem d_X3_isRowLike_34 : decode cX3_isRowLike 34 = .ok (.iaload, 1) := by decide +kernel
theorem d_X3_isRowLike_35 : decode cX3_isRowLike 35 = .ok (.if_icmp .eq 5, 3) := by decide +kernel
theorem d_X3_isRowLike_38 : decode cX3_isRowLike 38 = .ok (.iconst 0, 1) := by decide +kernel
theorem d_X3_isRowLike_39 : decode cX3_isRowLike 39 = .ok (.ireturn, 1) := by decide +kernel
theorem d_X3_isRowLike_40 : decode cX3_isRowLike 40 = .ok (.iinc 2 1, 3) := by decide +kernel
theorem d_X3_isRowLike_43 : decode cX3_isRowLike 43 = .ok (.goto (-28), 3) := by decide +kernel
theorem d_X3_isRowLike_46 : decode cX3_isRowLike 46 = .ok (.iconst 1, 1) := by decide +kernel
theorem d_X3_isRowLike_47 : decode cX3_isRowLike 47 = .ok (.ireturn, 1) := by decide +kernel
set_option maxHeartbeats 4000000 in
set_option maxRecDepth 100000 in
theorem t_X3_isRowLike_15 {X : XT_x} {G : GT_g} {z : Int} (C : Cx_ (K_X3_isRowLike) X G) (hR : Rx_ X G (some .boolean)) (M : Mem_m) (x0 : Nat) (x1 : Nat) : ∀ (n : Nat) (x2 : Int) (o_x2 : ok_i x2), f_X3_isRowLike_15 G.2.2.2 M x0 x1 n x2 = some z → V_ (K_X3_isRowLike) X G (Fq_ X G (Qi_ G M z)) M 15 [(0, .ref (G.1 + x0)), (1, .ref (G.1 + x1)), (2, iv_i x2)] [] := by
  intro n
  induction n with
  | zero => intro x2 o_x2 h; exact absurd h (by simp [f_X3_isRowLike_15])
  | succ n ih =>
    intro x2 o_x2 h
    unfold f_X3_isRowLike_15 at h
    refine V_iload_n (j := 2) C d_X3_isRowLike_15 rfl rfl ?_
    refine V_aload_n (j := 0) C d_X3_isRowLike_16 rfl rfl ?_
    refine V_getI C ck_3 fw_X3_29 d_X3_isRowLike_17 h (fun v1 o1 h => ?_)
    refine V_icmp_ge (tgt := 46) C d_X3_isRowLike_20 (by decide) o_x2 o1 h (fun h => ?_) (fun h => ?_)
    · skip
      refine V_aload_n (j := 0) C d_X3_isRowLike_23 rfl rfl ?_
      refine V_getR C ck_3 fw_X3_11 d_X3_isRowLike_24 h (fun v2 h => ?_)
      refine V_iload_n (j := 2) C d_X3_isRowLike_27 rfl rfl ?_
      refine V_iald C d_X3_isRowLike_28 o_x2 h (fun v3 o3 h => ?_)
      refine V_aload_n (j := 1) C d_X3_isRowLike_29 rfl rfl ?_
      refine V_getR C ck_10 fw_X3_114 d_X3_isRowLike_30 h (fun v4 h => ?_)
      refine V_iload_n (j := 2) C d_X3_isRowLike_33 rfl rfl ?_
      refine V_iald C d_X3_isRowLike_34 o_x2 h (fun v5 o5 h => ?_)
      refine V_icmp_eq (tgt := 40) C d_X3_isRowLike_35 (by decide) o3 o5 h (fun h => ?_) (fun h => ?_)
      · skip
        refine V_iinc (j := 2) (lv' := [(2, iv_i (wr_i (x2 + 1))), (0, .ref (G.1 + x0)), (1, .ref (G.1 + x1))]) C d_X3_isRowLike_40 rfl (by decide) rfl ?_
        refine V_goto (tgt := 15) C d_X3_isRowLike_43 (by decide) ?_
        refine V_lv [1, 2, 0] rfl (ih (wr_i (x2 + 1)) (ok_wr _) h)
      · skip
        refine V_iconst C d_X3_isRowLike_38 ?_
        exact V_zret_r C hR d_X3_isRowLike_39 (Or.inl rfl) h
    · skip
      refine V_iconst C d_X3_isRowLike_46 ?_
      exact V_zret_r C hR d_X3_isRowLike_47 (Or.inr rfl) h
set_option maxHeartbeats 4000000 in
set_option maxRecDepth 100000 in
theorem t_X3_isRowLike {X : XT_x} {G : GT_g} {M : Mem_m} {z : Int} (C : Cx_ (K_X3_isRowLike) X G) (hR : Rx_ X G (some .boolean)) (x0 : Nat) (x1 : Nat)  (h : f_X3_isRowLike G.2.2.2 M x0 x1 = some z) : V_ (K_X3_isRowLike) X G (Fq_ X G (Qi_ G M z)) M 0 [(0, .ref (G.1 + x0)), (1, .ref (G.1 + x1))] [] := by
  unfold f_X3_isRowLike at h
  refine V_aload_n (j := 0) C d_X3_isRowLike_0 rfl rfl ?_
  refine V_getI C ck_3 fw_X3_29 d_X3_isRowLike_1 h (fun v1 o1 h => ?_)
  refine V_aload_n (j := 1) C d_X3_isRowLike_4 rfl rfl ?_
  refine V_getI C ck_10 fw_X3_83 d_X3_isRowLike_5 h (fun v2 o2 h => ?_)
  refine V_icmp_eq (tgt := 13) C d_X3_isRowLike_8 (by decide) o1 o2 h (fun h => ?_) (fun h => ?_)
  · skip
    refine V_iconst C d_X3_isRowLike_13 ?_
    refine V_istore_n (lv' := [(2, iv_i 0), (0, .ref (G.1 + x0)), (1, .ref (G.1 + x1))]) C d_X3_isRowLike_14 rfl (by decide) rfl ?_
    refine V_lv [1, 2, 0] rfl (t_X3_isRowLike_15 C hR M x0 x1 FU_ 0 (okc rfl) h)
  · skip
    refine V_iconst C d_X3_isRowLike_11 ?_
    exact V_zret_r C hR d_X3_isRowLike_12 (Or.inl rfl) h
set_option maxHeartbeats 4000000 in
set_option maxRecDepth 100000 in
theorem ct_X3_isRowLike {l : Launch} {G : GT_g} {M : Mem_m} (x0 : Nat) (x1 : Nat)  {z : Int} (h : f_X3_isRowLike G.2.2.2 M x0 x1 = some z) : MI_ l yX3_isRowLike K_X3_isRowLike (some .boolean) G M [.ref (G.1 + x0), .ref (G.1 + x1)] M z :=
  met_of (by decide +kernel) rfl (Nat.le_of_ble_eq_true rfl) (fun X hl C hR => by subst hl; exact t_X3_isRowLike C hR x0 x1  h)
theorem d_X3_findDeep_0 : decode cX3_findDeep 0 = .ok (.aload_n 0, 1) := by decide +kernel
theorem d_X3_findDeep_1 : decode cX3_findDeep 1 = .ok (.aload_n 1, 1) := by decide +kernel
theorem d_X3_findDeep_2 : decode cX3_findDeep 2 = .ok (.aload_n 2, 1) := by decide +kernel
theorem d_X3_findDeep_3 : decode cX3_findDeep 3 = .ok (.invokevirtual 75, 3) := by decide +kernel
theorem d_X3_findDeep_6 : decode cX3_findDeep 6 = .ok (.iconst 1, 1) := by decide +kernel
theorem d_X3_findDeep_7 : decode cX3_findDeep 7 = .ok (.istore_n 3, 1) := by decide +kernel
theorem d_X3_findDeep_8 : decode cX3_findDeep 8 = .ok (.iload_n 3, 1) := by decide +kernel
theorem d_X3_findDeep_9 : decode cX3_findDeep 9 = .ok (.iconst 3, 1) := by decide +kernel
theorem d_X3_findDeep_10 : decode cX3_findDeep 10 = .ok (.if_icmp .gt 69, 3) := by decide +kernel
theorem d_X3_findDeep_13 : decode cX3_findDeep 13 = .ok (.iconst 0, 1) := by decide +kernel
theorem d_X3_findDeep_14 : decode cX3_findDeep 14 = .ok (.istore 4, 2) := by decide +kernel
theorem d_X3_findDeep_16 : decode cX3_findDeep 16 = .ok (.iload 4, 2) := by decide +kernel
theorem d_X3_findDeep_18 : decode cX3_findDeep 18 = .ok (.iconst 1, 1) := by decide +kernel
theorem d_X3_findDeep_19 : decode cX3_findDeep 19 = .ok (.iconst 4, 1) := by decide +kernel
theorem d_X3_findDeep_20 : decode cX3_findDeep 20 = .ok (.iload_n 3, 1) := by decide +kernel
theorem d_X3_findDeep_21 : decode cX3_findDeep 21 = .ok (.imul, 1) := by decide +kernel
theorem d_X3_findDeep_22 : decode cX3_findDeep 22 = .ok (.ishl, 1) := by decide +kernel
theorem d_X3_findDeep_23 : decode cX3_findDeep 23 = .ok (.if_icmp .ge 50, 3) := by decide +kernel
theorem d_X3_findDeep_26 : decode cX3_findDeep 26 = .ok (.aload_n 0, 1) := by decide +kernel
theorem d_X3_findDeep_27 : decode cX3_findDeep 27 = .ok (.aload_n 1, 1) := by decide +kernel
theorem d_X3_findDeep_28 : decode cX3_findDeep 28 = .ok (.iload 4, 2) := by decide +kernel
theorem d_X3_findDeep_30 : decode cX3_findDeep 30 = .ok (.iload_n 3, 1) := by decide +kernel
theorem d_X3_findDeep_31 : decode cX3_findDeep 31 = .ok (.invokevirtual 79, 3) := by decide +kernel
theorem d_X3_findDeep_34 : decode cX3_findDeep 34 = .ok (.ifCond .eq 33, 3) := by decide +kernel
theorem d_X3_findDeep_37 : decode cX3_findDeep 37 = .ok (.aload_n 0, 1) := by decide +kernel
theorem d_X3_findDeep_38 : decode cX3_findDeep 38 = .ok (.aload_n 2, 1) := by decide +kernel
theorem d_X3_findDeep_39 : decode cX3_findDeep 39 = .ok (.getfield 83, 3) := by decide +kernel
theorem d_X3_findDeep_42 : decode cX3_findDeep 42 = .ok (.invokevirtual 86, 3) := by decide +kernel
theorem d_X3_findDeep_45 : decode cX3_findDeep 45 = .ok (.ifCond .eq 22, 3) := by decide +kernel
theorem d_X3_findDeep_48 : decode cX3_findDeep 48 = .ok (.aload_n 0, 1) := by decide +kernel
theorem d_X3_findDeep_49 : decode cX3_findDeep 49 = .ok (.aload_n 1, 1) := by decide +kernel
theorem d_X3_findDeep_50 : decode cX3_findDeep 50 = .ok (.invokevirtual 90, 3) := by decide +kernel
theorem d_X3_findDeep_53 : decode cX3_findDeep 53 = .ok (.aload_n 0, 1) := by decide +kernel
theorem d_X3_findDeep_54 : decode cX3_findDeep 54 = .ok (.aload_n 2, 1) := by decide +kernel
theorem d_X3_findDeep_55 : decode cX3_findDeep 55 = .ok (.invokevirtual 94, 3) := by decide +kernel
theorem d_X3_findDeep_58 : decode cX3_findDeep 58 = .ok (.ifCond .eq 9, 3) := by decide +kernel
theorem d_X3_findDeep_61 : decode cX3_findDeep 61 = .ok (.aload_n 0, 1) := by decide +kernel
theorem d_X3_findDeep_62 : decode cX3_findDeep 62 = .ok (.iload_n 3, 1) := by decide +kernel
theorem d_X3_findDeep_63 : decode cX3_findDeep 63 = .ok (.putfield 98, 3) := by decide +kernel
theorem d_X3_findDeep_66 : decode cX3_findDeep 66 = .ok (.return_, 1) := by decide +kernel
theorem d_X3_findDeep_67 : decode cX3_findDeep 67 = .ok (.iinc 4 1, 3) := by decide +kernel
theorem d_X3_findDeep_70 : decode cX3_findDeep 70 = .ok (.goto (-54), 3) := by decide +kernel
theorem d_X3_findDeep_73 : decode cX3_findDeep 73 = .ok (.iinc 3 1, 3) := by decide +kernel
theorem d_X3_findDeep_76 : decode cX3_findDeep 76 = .ok (.goto (-68), 3) := by decide +kernel
theorem d_X3_findDeep_79 : decode cX3_findDeep 79 = .ok (.aload_n 0, 1) := by decide +kernel
theorem d_X3_findDeep_80 : decode cX3_findDeep 80 = .ok (.iconst 0, 1) := by decide +kernel
theorem d_X3_findDeep_81 : decode cX3_findDeep 81 = .ok (.putfield 98, 3) := by decide +kernel
theorem d_X3_findDeep_84 : decode cX3_findDeep 84 = .ok (.return_, 1) := by decide +kernel
set_option maxHeartbeats 4000000 in
set_option maxRecDepth 100000 in
theorem t_X3_findDeep_16 {X : XT_x} {G : GT_g} {z : Mem_m} (C : Cx_ (K_X3_findDeep) X G) (hR : Rx_ X G none) (x0 : Nat) (x1 : Nat) (x2 : Nat) (x3 : Int) (o_x3 : ok_i x3) (k_8 : Mem_m → Int → Option Mem_m) (hk_8 : ∀ (M : Mem_m) (x3 : Int) (o_x3 : ok_i x3), k_8 M x3 = some z → V_ (K_X3_findDeep) X G (Fq_ X G (Qv_ G z)) M 8 [(0, .ref (G.1 + x0)), (1, .ref (G.1 + x1)), (2, .ref (G.1 + x2)), (3, iv_i x3)] []) : ∀ (n : Nat) (M : Mem_m) (x4 : Int) (o_x4 : ok_i x4), f_X3_findDeep_16 G.2.2.2 k_8 x0 x1 x2 x3 n M x4 = some z → V_ (K_X3_findDeep) X G (Fq_ X G (Qv_ G z)) M 16 [(0, .ref (G.1 + x0)), (1, .ref (G.1 + x1)), (2, .ref (G.1 + x2)), (3, iv_i x3), (4, iv_i x4)] [] := by
  intro n
  induction n with
  | zero => intro M x4 o_x4 h; exact absurd h (by simp [f_X3_findDeep_16])
  | succ n ih =>
    intro M x4 o_x4 h
    unfold f_X3_findDeep_16 at h
    refine V_iload (j := 4) C d_X3_findDeep_16 rfl ?_
    refine V_iconst C d_X3_findDeep_18 ?_
    refine V_iconst C d_X3_findDeep_19 ?_
    refine V_iload_n (j := 3) C d_X3_findDeep_20 rfl rfl ?_
    refine V_imul C d_X3_findDeep_21 ?_
    refine V_ishl C d_X3_findDeep_22 ?_
    refine V_icmp_ge (tgt := 73) C d_X3_findDeep_23 (by decide) o_x4 (ok_I _) h (fun h => ?_) (fun h => ?_)
    · skip
      refine V_aload_n (j := 0) C d_X3_findDeep_26 rfl rfl ?_
      refine V_aload_n (j := 1) C d_X3_findDeep_27 rfl rfl ?_
      refine V_iload (j := 4) C d_X3_findDeep_28 rfl ?_
      refine V_iload_n (j := 3) C d_X3_findDeep_30 rfl rfl ?_
      refine V_callVwi (K' := K_X3_isSpelled) (a := x0) (ci := 3) (av := [.ref (G.1 + x1), iv_i x4, iv_i x3]) (rest := []) yi_X3_isSpelled (by decide) rfl C (yk_X3_isSpelled) l1_X3_79 (by decide) d_X3_findDeep_31 (fun v hv => ct_X3_isSpelled x0 x1 x4 x3 o_x4 o_x3 hv) rfl rfl (Nat.le_of_ble_eq_true rfl) h (fun z1 o1 h => ?_)
      refine V_if_eq (tgt := 67) C d_X3_findDeep_34 (by decide) o1 h (fun h => ?_) (fun h => ?_)
      · skip
        refine V_iinc (j := 4) (lv' := [(4, iv_i (wr_i (x4 + 1))), (0, .ref (G.1 + x0)), (1, .ref (G.1 + x1)), (2, .ref (G.1 + x2)), (3, iv_i x3)]) C d_X3_findDeep_67 rfl (by decide) rfl ?_
        refine V_goto (tgt := 16) C d_X3_findDeep_70 (by decide) ?_
        refine V_lv [1, 2, 3, 4, 0] rfl (ih z1.1 (wr_i (x4 + 1)) (ok_wr _) h)
      · skip
        refine V_aload_n (j := 0) C d_X3_findDeep_37 rfl rfl ?_
        refine V_aload_n (j := 2) C d_X3_findDeep_38 rfl rfl ?_
        refine V_getI C ck_10 fw_X3_83 d_X3_findDeep_39 h (fun v2 o2 h => ?_)
        refine V_callVri (K' := K_X3_hasChance) (a := x0) (ci := 3) (av := [iv_i v2]) (rest := []) yi_X3_hasChance (by decide) rfl C (yk_X3_hasChance) l1_X3_86 (by decide) d_X3_findDeep_42 (fun v hv => ct_X3_hasChance x0 v2 o2 hv) rfl rfl (Nat.le_of_ble_eq_true rfl) h (fun v3 o3 h => ?_)
        refine V_if_eq (tgt := 67) C d_X3_findDeep_45 (by decide) o3 h (fun h => ?_) (fun h => ?_)
        · skip
          refine V_iinc (j := 4) (lv' := [(4, iv_i (wr_i (x4 + 1))), (0, .ref (G.1 + x0)), (1, .ref (G.1 + x1)), (2, .ref (G.1 + x2)), (3, iv_i x3)]) C d_X3_findDeep_67 rfl (by decide) rfl ?_
          refine V_goto (tgt := 16) C d_X3_findDeep_70 (by decide) ?_
          refine V_lv [1, 2, 3, 4, 0] rfl (ih z1.1 (wr_i (x4 + 1)) (ok_wr _) h)
        · skip
          refine V_aload_n (j := 0) C d_X3_findDeep_48 rfl rfl ?_
          refine V_aload_n (j := 1) C d_X3_findDeep_49 rfl rfl ?_
          refine V_callVwv (K' := K_X3_hear) (a := x0) (ci := 3) (av := [.ref (G.1 + x1)]) (rest := []) yi_X3_hear (by decide) rfl C (yk_X3_hear) l1_X3_90 (by decide) d_X3_findDeep_50 (fun v hv => ct_X3_hear x0 x1 hv) rfl rfl (Nat.le_of_ble_eq_true rfl) h (fun M4 h => ?_)
          refine V_aload_n (j := 0) C d_X3_findDeep_53 rfl rfl ?_
          refine V_aload_n (j := 2) C d_X3_findDeep_54 rfl rfl ?_
          refine V_callVri (K' := K_X3_isRowLike) (a := x0) (ci := 3) (av := [.ref (G.1 + x2)]) (rest := []) yi_X3_isRowLike (by decide) rfl C (yk_X3_isRowLike) l1_X3_94 (by decide) d_X3_findDeep_55 (fun v hv => ct_X3_isRowLike x0 x2 hv) rfl rfl (Nat.le_of_ble_eq_true rfl) h (fun v5 o5 h => ?_)
          refine V_if_eq (tgt := 67) C d_X3_findDeep_58 (by decide) o5 h (fun h => ?_) (fun h => ?_)
          · skip
            refine V_iinc (j := 4) (lv' := [(4, iv_i (wr_i (x4 + 1))), (0, .ref (G.1 + x0)), (1, .ref (G.1 + x1)), (2, .ref (G.1 + x2)), (3, iv_i x3)]) C d_X3_findDeep_67 rfl (by decide) rfl ?_
            refine V_goto (tgt := 16) C d_X3_findDeep_70 (by decide) ?_
            refine V_lv [1, 2, 3, 4, 0] rfl (ih M4 (wr_i (x4 + 1)) (ok_wr _) h)
          · skip
            refine V_aload_n (j := 0) C d_X3_findDeep_61 rfl rfl ?_
            refine V_iload_n (j := 3) C d_X3_findDeep_62 rfl rfl ?_
            refine V_putI C ck_3 fw_X3_98 fp_3_3 d_X3_findDeep_63 o_x3 h (fun M6 h => ?_)
            exact V_vret C hR d_X3_findDeep_66 (Option.some.inj h)
    · skip
      refine V_iinc (j := 3) (lv' := [(3, iv_i (wr_i (x3 + 1))), (0, .ref (G.1 + x0)), (1, .ref (G.1 + x1)), (2, .ref (G.1 + x2)), (4, iv_i x4)]) C d_X3_findDeep_73 rfl (by decide) rfl ?_
      refine V_goto (tgt := 8) C d_X3_findDeep_76 (by decide) ?_
      refine V_lv [1, 2, 3, 0] rfl (hk_8 M (wr_i (x3 + 1)) (ok_wr _) h)
set_option maxHeartbeats 4000000 in
set_option maxRecDepth 100000 in
theorem t_X3_findDeep_8 {X : XT_x} {G : GT_g} {z : Mem_m} (C : Cx_ (K_X3_findDeep) X G) (hR : Rx_ X G none) (x0 : Nat) (x1 : Nat) (x2 : Nat) : ∀ (n : Nat) (M : Mem_m) (x3 : Int) (o_x3 : ok_i x3), f_X3_findDeep_8 G.2.2.2 x0 x1 x2 n M x3 = some z → V_ (K_X3_findDeep) X G (Fq_ X G (Qv_ G z)) M 8 [(0, .ref (G.1 + x0)), (1, .ref (G.1 + x1)), (2, .ref (G.1 + x2)), (3, iv_i x3)] [] := by
  intro n
  induction n with
  | zero => intro M x3 o_x3 h; exact absurd h (by simp [f_X3_findDeep_8])
  | succ n ih =>
    intro M x3 o_x3 h
    unfold f_X3_findDeep_8 at h
    refine V_iload_n (j := 3) C d_X3_findDeep_8 rfl rfl ?_
    refine V_iconst C d_X3_findDeep_9 ?_
    refine V_icmp_gt (tgt := 79) C d_X3_findDeep_10 (by decide) o_x3 (okc rfl) h (fun h => ?_) (fun h => ?_)
    · skip
      refine V_iconst C d_X3_findDeep_13 ?_
      refine V_istore (lv' := [(4, iv_i 0), (0, .ref (G.1 + x0)), (1, .ref (G.1 + x1)), (2, .ref (G.1 + x2)), (3, iv_i x3)]) C d_X3_findDeep_14 (by decide) rfl ?_
      refine V_lv [1, 2, 3, 4, 0] rfl (t_X3_findDeep_16 C hR x0 x1 x2 x3 o_x3 (fun M x3 => f_X3_findDeep_8 G.2.2.2 x0 x1 x2 n M x3) (fun M x3 o_x3 h9 => ih M x3 o_x3 h9) FU_ M 0 (okc rfl) h)
    · skip
      refine V_aload_n (j := 0) C d_X3_findDeep_79 rfl rfl ?_
      refine V_iconst C d_X3_findDeep_80 ?_
      refine V_putI C ck_3 fw_X3_98 fp_3_3 d_X3_findDeep_81 (okc rfl) h (fun M1 h => ?_)
      exact V_vret C hR d_X3_findDeep_84 (Option.some.inj h)
set_option maxHeartbeats 4000000 in
set_option maxRecDepth 100000 in
theorem t_X3_findDeep {X : XT_x} {G : GT_g} {M : Mem_m} {z : Mem_m} (C : Cx_ (K_X3_findDeep) X G) (hR : Rx_ X G none) (x0 : Nat) (x1 : Nat) (x2 : Nat)  (h : f_X3_findDeep G.2.2.2 M x0 x1 x2 = some z) : V_ (K_X3_findDeep) X G (Fq_ X G (Qv_ G z)) M 0 [(0, .ref (G.1 + x0)), (1, .ref (G.1 + x1)), (2, .ref (G.1 + x2))] [] := by
  unfold f_X3_findDeep at h
  refine V_aload_n (j := 0) C d_X3_findDeep_0 rfl rfl ?_
  refine V_aload_n (j := 1) C d_X3_findDeep_1 rfl rfl ?_
  refine V_aload_n (j := 2) C d_X3_findDeep_2 rfl rfl ?_
  refine V_callVwv (K' := K_X3_findChances) (a := x0) (ci := 3) (av := [.ref (G.1 + x1), .ref (G.1 + x2)]) (rest := []) yi_X3_findChances (by decide) rfl C (yk_X3_findChances) l1_X3_75 (by decide) d_X3_findDeep_3 (fun v hv => ct_X3_findChances x0 x1 x2 hv) rfl rfl (Nat.le_of_ble_eq_true rfl) h (fun M1 h => ?_)
  refine V_iconst C d_X3_findDeep_6 ?_
  refine V_istore_n (lv' := [(3, iv_i 1), (0, .ref (G.1 + x0)), (1, .ref (G.1 + x1)), (2, .ref (G.1 + x2))]) C d_X3_findDeep_7 rfl (by decide) rfl ?_
  refine V_lv [1, 2, 3, 0] rfl (t_X3_findDeep_8 C hR x0 x1 x2 FU_ M1 1 (okc rfl) h)
set_option maxHeartbeats 4000000 in
set_option maxRecDepth 100000 in
theorem ct_X3_findDeep {l : Launch} {G : GT_g} {M : Mem_m} (x0 : Nat) (x1 : Nat) (x2 : Nat)  {z : Mem_m} (h : f_X3_findDeep G.2.2.2 M x0 x1 x2 = some z) : MV_ l yX3_findDeep K_X3_findDeep none G M [.ref (G.1 + x0), .ref (G.1 + x1), .ref (G.1 + x2)] z :=
  met_of (by decide +kernel) rfl (Nat.le_of_ble_eq_true rfl) (fun X hl C hR => by subst hl; exact t_X3_findDeep C hR x0 x1 x2  h)
theorem d_X4_findLaw_0 : decode cX4_findLaw 0 = .ok (.iconst 0, 1) := by decide +kernel
theorem d_X4_findLaw_1 : decode cX4_findLaw 1 = .ok (.istore_n 2, 1) := by decide +kernel
theorem d_X4_findLaw_2 : decode cX4_findLaw 2 = .ok (.aload_n 0, 1) := by decide +kernel
theorem d_X4_findLaw_3 : decode cX4_findLaw 3 = .ok (.getfield 15, 3) := by decide +kernel
theorem d_X4_findLaw_6 : decode cX4_findLaw 6 = .ok (.iload_n 1, 1) := by decide +kernel
theorem d_X4_findLaw_7 : decode cX4_findLaw 7 = .ok (.bipush (-4), 2) := by decide +kernel
theorem d_X4_findLaw_9 : decode cX4_findLaw 9 = .ok (.iastore, 1) := by decide +kernel
theorem d_X4_findLaw_10 : decode cX4_findLaw 10 = .ok (.iconst 0, 1) := by decide +kernel
theorem d_X4_findLaw_11 : decode cX4_findLaw 11 = .ok (.istore_n 3, 1) := by decide +kernel
theorem d_X4_findLaw_12 : decode cX4_findLaw 12 = .ok (.iload_n 3, 1) := by decide +kernel
theorem d_X4_findLaw_13 : decode cX4_findLaw 13 = .ok (.bipush 10, 2) := by decide +kernel
theorem d_X4_findLaw_15 : decode cX4_findLaw 15 = .ok (.if_icmp .ge 43, 3) := by decide +kernel
theorem d_X4_findLaw_18 : decode cX4_findLaw 18 = .ok (.aload_n 0, 1) := by decide +kernel
theorem d_X4_findLaw_19 : decode cX4_findLaw 19 = .ok (.getfield 9, 3) := by decide +kernel
theorem d_X4_findLaw_22 : decode cX4_findLaw 22 = .ok (.iload_n 1, 1) := by decide +kernel
theorem d_X4_findLaw_23 : decode cX4_findLaw 23 = .ok (.bipush 10, 2) := by decide +kernel
theorem d_X4_findLaw_25 : decode cX4_findLaw 25 = .ok (.imul, 1) := by decide +kernel
theorem d_X4_findLaw_26 : decode cX4_findLaw 26 = .ok (.iload_n 3, 1) := by decide +kernel
theorem d_X4_findLaw_27 : decode cX4_findLaw 27 = .ok (.iadd, 1) := by decide +kernel
theorem d_X4_findLaw_28 : decode cX4_findLaw 28 = .ok (.iaload, 1) := by decide +kernel
theorem d_X4_findLaw_29 : decode cX4_findLaw 29 = .ok (.iload_n 2, 1) := by decide +kernel
theorem d_X4_findLaw_30 : decode cX4_findLaw 30 = .ok (.if_icmp .le 22, 3) := by decide +kernel
theorem d_X4_findLaw_33 : decode cX4_findLaw 33 = .ok (.aload_n 0, 1) := by decide +kernel
theorem d_X4_findLaw_34 : decode cX4_findLaw 34 = .ok (.getfield 9, 3) := by decide +kernel
theorem d_X4_findLaw_37 : decode cX4_findLaw 37 = .ok (.iload_n 1, 1) := by decide +kernel
theorem d_X4_findLaw_38 : decode cX4_findLaw 38 = .ok (.bipush 10, 2) := by decide +kernel
theorem d_X4_findLaw_40 : decode cX4_findLaw 40 = .ok (.imul, 1) := by decide +kernel
theorem d_X4_findLaw_41 : decode cX4_findLaw 41 = .ok (.iload_n 3, 1) := by decide +kernel
theorem d_X4_findLaw_42 : decode cX4_findLaw 42 = .ok (.iadd, 1) := by decide +kernel
theorem d_X4_findLaw_43 : decode cX4_findLaw 43 = .ok (.iaload, 1) := by decide +kernel
theorem d_X4_findLaw_44 : decode cX4_findLaw 44 = .ok (.istore_n 2, 1) := by decide +kernel
theorem d_X4_findLaw_45 : decode cX4_findLaw 45 = .ok (.aload_n 0, 1) := by decide +kernel
theorem d_X4_findLaw_46 : decode cX4_findLaw 46 = .ok (.getfield 15, 3) := by decide +kernel
theorem d_X4_findLaw_49 : decode cX4_findLaw 49 = .ok (.iload_n 1, 1) := by decide +kernel
theorem d_X4_findLaw_50 : decode cX4_findLaw 50 = .ok (.iload_n 3, 1) := by decide +kernel
theorem d_X4_findLaw_51 : decode cX4_findLaw 51 = .ok (.iastore, 1) := by decide +kernel
theorem d_X4_findLaw_52 : decode cX4_findLaw 52 = .ok (.iinc 3 1, 3) := by decide +kernel
theorem d_X4_findLaw_55 : decode cX4_findLaw 55 = .ok (.goto (-43), 3) := by decide +kernel
theorem d_X4_findLaw_58 : decode cX4_findLaw 58 = .ok (.aload_n 0, 1) := by decide +kernel
theorem d_X4_findLaw_59 : decode cX4_findLaw 59 = .ok (.dup, 1) := by decide +kernel
theorem d_X4_findLaw_60 : decode cX4_findLaw 60 = .ok (.getfield 62, 3) := by decide +kernel
theorem d_X4_findLaw_63 : decode cX4_findLaw 63 = .ok (.iload_n 2, 1) := by decide +kernel
theorem d_X4_findLaw_64 : decode cX4_findLaw 64 = .ok (.iadd, 1) := by decide +kernel
theorem d_X4_findLaw_65 : decode cX4_findLaw 65 = .ok (.putfield 62, 3) := by decide +kernel
theorem d_X4_findLaw_68 : decode cX4_findLaw 68 = .ok (.return_, 1) := by decide +kernel
set_option maxHeartbeats 4000000 in
set_option maxRecDepth 100000 in
theorem t_X4_findLaw_12 {X : XT_x} {G : GT_g} {z : Mem_m} (C : Cx_ (K_X4_findLaw) X G) (hR : Rx_ X G none) (x0 : Nat) (x1 : Int) (o_x1 : ok_i x1) : ∀ (n : Nat) (M : Mem_m) (x2 : Int) (x3 : Int) (o_x2 : ok_i x2) (o_x3 : ok_i x3), f_X4_findLaw_12 G.2.2.2 x0 x1 n M x2 x3 = some z → V_ (K_X4_findLaw) X G (Fq_ X G (Qv_ G z)) M 12 [(0, .ref (G.1 + x0)), (1, iv_i x1), (2, iv_i x2), (3, iv_i x3)] [] := by
  intro n
  induction n with
  | zero => intro M x2 x3 o_x2 o_x3 h; exact absurd h (by simp [f_X4_findLaw_12])
  | succ n ih =>
    intro M x2 x3 o_x2 o_x3 h
    unfold f_X4_findLaw_12 at h
    refine V_iload_n (j := 3) C d_X4_findLaw_12 rfl rfl ?_
    refine V_bipush (v := 10) C d_X4_findLaw_13 rfl ?_
    refine V_icmp_ge (tgt := 58) C d_X4_findLaw_15 (by decide) o_x3 (okc rfl) h (fun h => ?_) (fun h => ?_)
    · skip
      refine V_aload_n (j := 0) C d_X4_findLaw_18 rfl rfl ?_
      refine V_getR C ck_4 fw_X4_9 d_X4_findLaw_19 h (fun v1 h => ?_)
      refine V_iload_n (j := 1) C d_X4_findLaw_22 rfl rfl ?_
      refine V_bipush (v := 10) C d_X4_findLaw_23 rfl ?_
      refine V_imul C d_X4_findLaw_25 ?_
      refine V_iload_n (j := 3) C d_X4_findLaw_26 rfl rfl ?_
      refine V_iadd C d_X4_findLaw_27 ?_
      refine V_iald C d_X4_findLaw_28 (ok_wr _) h (fun v2 o2 h => ?_)
      refine V_iload_n (j := 2) C d_X4_findLaw_29 rfl rfl ?_
      refine V_icmp_le (tgt := 52) C d_X4_findLaw_30 (by decide) o2 o_x2 h (fun h => ?_) (fun h => ?_)
      · skip
        refine V_iinc (j := 3) (lv' := [(3, iv_i (wr_i (x3 + 1))), (0, .ref (G.1 + x0)), (1, iv_i x1), (2, iv_i x2)]) C d_X4_findLaw_52 rfl (by decide) rfl ?_
        refine V_goto (tgt := 12) C d_X4_findLaw_55 (by decide) ?_
        refine V_lv [1, 2, 3, 0] rfl (ih M x2 (wr_i (x3 + 1)) o_x2 (ok_wr _) h)
      · skip
        refine V_aload_n (j := 0) C d_X4_findLaw_33 rfl rfl ?_
        refine V_getR C ck_4 fw_X4_9 d_X4_findLaw_34 h (fun v3 h => ?_)
        refine V_iload_n (j := 1) C d_X4_findLaw_37 rfl rfl ?_
        refine V_bipush (v := 10) C d_X4_findLaw_38 rfl ?_
        refine V_imul C d_X4_findLaw_40 ?_
        refine V_iload_n (j := 3) C d_X4_findLaw_41 rfl rfl ?_
        refine V_iadd C d_X4_findLaw_42 ?_
        refine V_iald C d_X4_findLaw_43 (ok_wr _) h (fun v4 o4 h => ?_)
        refine V_istore_n (lv' := [(2, iv_i v4), (0, .ref (G.1 + x0)), (1, iv_i x1), (3, iv_i x3)]) C d_X4_findLaw_44 rfl (by decide) rfl ?_
        refine V_aload_n (j := 1) C d_X4_findLaw_45 rfl rfl ?_
        refine V_getR C ck_4 fw_X4_15 d_X4_findLaw_46 h (fun v5 h => ?_)
        refine V_iload_n (j := 2) C d_X4_findLaw_49 rfl rfl ?_
        refine V_iload_n (j := 3) C d_X4_findLaw_50 rfl rfl ?_
        refine V_iast C d_X4_findLaw_51 o_x1 o_x3 h (fun M6 h => ?_)
        refine V_iinc (j := 3) (lv' := [(3, iv_i (wr_i (x3 + 1))), (2, iv_i v4), (0, .ref (G.1 + x0)), (1, iv_i x1)]) C d_X4_findLaw_52 rfl (by decide) rfl ?_
        refine V_goto (tgt := 12) C d_X4_findLaw_55 (by decide) ?_
        refine V_lv [2, 3, 1, 0] rfl (ih M6 v4 (wr_i (x3 + 1)) o4 (ok_wr _) h)
    · skip
      refine V_aload_n (j := 0) C d_X4_findLaw_58 rfl rfl ?_
      refine V_dup C d_X4_findLaw_59 rfl ?_
      refine V_getI C ck_4 fw_X4_62 d_X4_findLaw_60 h (fun v7 o7 h => ?_)
      refine V_iload_n (j := 2) C d_X4_findLaw_63 rfl rfl ?_
      refine V_iadd C d_X4_findLaw_64 ?_
      refine V_putI C ck_4 fw_X4_62 fp_4_2 d_X4_findLaw_65 (ok_wr _) h (fun M8 h => ?_)
      exact V_vret C hR d_X4_findLaw_68 (Option.some.inj h)
set_option maxHeartbeats 4000000 in
set_option maxRecDepth 100000 in
theorem t_X4_findLaw {X : XT_x} {G : GT_g} {M : Mem_m} {z : Mem_m} (C : Cx_ (K_X4_findLaw) X G) (hR : Rx_ X G none) (x0 : Nat) (x1 : Int) (o_x1 : ok_i x1) (h : f_X4_findLaw G.2.2.2 M x0 x1 = some z) : V_ (K_X4_findLaw) X G (Fq_ X G (Qv_ G z)) M 0 [(0, .ref (G.1 + x0)), (1, iv_i x1)] [] := by
  unfold f_X4_findLaw at h
  refine V_iconst C d_X4_findLaw_0 ?_
  refine V_istore_n (lv' := [(2, iv_i 0), (0, .ref (G.1 + x0)), (1, iv_i x1)]) C d_X4_findLaw_1 rfl (by decide) rfl ?_
  refine V_aload_n (j := 1) C d_X4_findLaw_2 rfl rfl ?_
  refine V_getR C ck_4 fw_X4_15 d_X4_findLaw_3 h (fun v1 h => ?_)
  refine V_iload_n (j := 2) C d_X4_findLaw_6 rfl rfl ?_
  refine V_bipush (v := (-4)) C d_X4_findLaw_7 rfl ?_
  refine V_iast C d_X4_findLaw_9 o_x1 (okc rfl) h (fun M2 h => ?_)
  refine V_iconst C d_X4_findLaw_10 ?_
  refine V_istore_n (lv' := [(3, iv_i 0), (2, iv_i 0), (0, .ref (G.1 + x0)), (1, iv_i x1)]) C d_X4_findLaw_11 rfl (by decide) rfl ?_
  refine V_lv [2, 3, 1, 0] rfl (t_X4_findLaw_12 C hR x0 x1 o_x1 FU_ M2 0 0 (okc rfl) (okc rfl) h)
set_option maxHeartbeats 4000000 in
set_option maxRecDepth 100000 in
theorem ct_X4_findLaw {l : Launch} {G : GT_g} {M : Mem_m} (x0 : Nat) (x1 : Int) (o_x1 : ok_i x1) {z : Mem_m} (h : f_X4_findLaw G.2.2.2 M x0 x1 = some z) : MV_ l yX4_findLaw K_X4_findLaw none G M [.ref (G.1 + x0), iv_i x1] z :=
  met_of (by decide +kernel) rfl (Nat.le_of_ble_eq_true rfl) (fun X hl C hR => by subst hl; exact t_X4_findLaw C hR x0 x1 o_x1 h)
theorem d_X4_make_0 : decode cX4_make 0 = .ok (.aload_n 0, 1) := by decide +kernel
theorem d_X4_make_1 : decode cX4_make 1 = .ok (.getfield 9, 3) := by decide +kernel
theorem d_X4_make_4 : decode cX4_make 4 = .ok (.iconst 0, 1) := by decide +kernel
theorem d_X4_make_5 : decode cX4_make 5 = .ok (.invokestatic 31, 3) := by decide +kernel
theorem d_X4_make_8 : decode cX4_make 8 = .ok (.iconst 0, 1) := by decide +kernel
theorem d_X4_make_9 : decode cX4_make 9 = .ok (.istore_n 2, 1) := by decide +kernel
theorem d_X4_make_10 : decode cX4_make 10 = .ok (.iload_n 2, 1) := by decide +kernel
theorem d_X4_make_11 : decode cX4_make 11 = .ok (.aload_n 1, 1) := by decide +kernel
theorem d_X4_make_12 : decode cX4_make 12 = .ok (.getfield 21, 3) := by decide +kernel
theorem d_X4_make_15 : decode cX4_make 15 = .ok (.if_icmp .ge 95, 3) := by decide +kernel
theorem d_X4_make_18 : decode cX4_make 18 = .ok (.aload_n 1, 1) := by decide +kernel
theorem d_X4_make_19 : decode cX4_make 19 = .ok (.getfield 37, 3) := by decide +kernel
theorem d_X4_make_22 : decode cX4_make 22 = .ok (.aload_n 1, 1) := by decide +kernel
theorem d_X4_make_23 : decode cX4_make 23 = .ok (.getfield 41, 3) := by decide +kernel
theorem d_X4_make_26 : decode cX4_make 26 = .ok (.iload_n 2, 1) := by decide +kernel
theorem d_X4_make_27 : decode cX4_make 27 = .ok (.iaload, 1) := by decide +kernel
theorem d_X4_make_28 : decode cX4_make 28 = .ok (.aaload, 1) := by decide +kernel
theorem d_X4_make_29 : decode cX4_make 29 = .ok (.getfield 44, 3) := by decide +kernel
theorem d_X4_make_32 : decode cX4_make 32 = .ok (.astore_n 3, 1) := by decide +kernel
theorem d_X4_make_33 : decode cX4_make 33 = .ok (.aload_n 1, 1) := by decide +kernel
theorem d_X4_make_34 : decode cX4_make 34 = .ok (.getfield 50, 3) := by decide +kernel
theorem d_X4_make_37 : decode cX4_make 37 = .ok (.aload_n 0, 1) := by decide +kernel
theorem d_X4_make_38 : decode cX4_make 38 = .ok (.getfield 18, 3) := by decide +kernel
theorem d_X4_make_41 : decode cX4_make 41 = .ok (.iload_n 2, 1) := by decide +kernel
theorem d_X4_make_42 : decode cX4_make 42 = .ok (.iaload, 1) := by decide +kernel
theorem d_X4_make_43 : decode cX4_make 43 = .ok (.aaload, 1) := by decide +kernel
theorem d_X4_make_44 : decode cX4_make 44 = .ok (.astore 4, 2) := by decide +kernel
theorem d_X4_make_46 : decode cX4_make 46 = .ok (.iconst 0, 1) := by decide +kernel
theorem d_X4_make_47 : decode cX4_make 47 = .ok (.istore 5, 2) := by decide +kernel
theorem d_X4_make_49 : decode cX4_make 49 = .ok (.aload_n 3, 1) := by decide +kernel
theorem d_X4_make_50 : decode cX4_make 50 = .ok (.getfield 54, 3) := by decide +kernel
theorem d_X4_make_53 : decode cX4_make 53 = .ok (.aload 4, 2) := by decide +kernel
theorem d_X4_make_55 : decode cX4_make 55 = .ok (.getfield 54, 3) := by decide +kernel
theorem d_X4_make_58 : decode cX4_make 58 = .ok (.if_icmp .ne 46, 3) := by decide +kernel
theorem d_X4_make_61 : decode cX4_make 61 = .ok (.iload 5, 2) := by decide +kernel
theorem d_X4_make_63 : decode cX4_make 63 = .ok (.aload_n 3, 1) := by decide +kernel
theorem d_X4_make_64 : decode cX4_make 64 = .ok (.getfield 54, 3) := by decide +kernel
theorem d_X4_make_67 : decode cX4_make 67 = .ok (.if_icmp .ge 37, 3) := by decide +kernel
theorem d_X4_make_70 : decode cX4_make 70 = .ok (.aload_n 0, 1) := by decide +kernel
theorem d_X4_make_71 : decode cX4_make 71 = .ok (.getfield 9, 3) := by decide +kernel
theorem d_X4_make_74 : decode cX4_make 74 = .ok (.aload_n 3, 1) := by decide +kernel
theorem d_X4_make_75 : decode cX4_make 75 = .ok (.getfield 59, 3) := by decide +kernel
theorem d_X4_make_78 : decode cX4_make 78 = .ok (.iload 5, 2) := by decide +kernel
theorem d_X4_make_80 : decode cX4_make 80 = .ok (.iaload, 1) := by decide +kernel
theorem d_X4_make_81 : decode cX4_make 81 = .ok (.bipush 10, 2) := by decide +kernel
theorem d_X4_make_83 : decode cX4_make 83 = .ok (.imul, 1) := by decide +kernel
theorem d_X4_make_84 : decode cX4_make 84 = .ok (.aload 4, 2) := by decide +kernel
theorem d_X4_make_86 : decode cX4_make 86 = .ok (.getfield 59, 3) := by decide +kernel
theorem d_X4_make_89 : decode cX4_make 89 = .ok (.iload 5, 2) := by decide +kernel
theorem d_X4_make_91 : decode cX4_make 91 = .ok (.iaload, 1) := by decide +kernel
theorem d_X4_make_92 : decode cX4_make 92 = .ok (.iadd, 1) := by decide +kernel
theorem d_X4_make_93 : decode cX4_make 93 = .ok (.dup2, 1) := by decide +kernel
theorem d_X4_make_94 : decode cX4_make 94 = .ok (.iaload, 1) := by decide +kernel
theorem d_X4_make_95 : decode cX4_make 95 = .ok (.iconst 1, 1) := by decide +kernel
theorem d_X4_make_96 : decode cX4_make 96 = .ok (.iadd, 1) := by decide +kernel
theorem d_X4_make_97 : decode cX4_make 97 = .ok (.iastore, 1) := by decide +kernel
theorem d_X4_make_98 : decode cX4_make 98 = .ok (.iinc 5 1, 3) := by decide +kernel
theorem d_X4_make_101 : decode cX4_make 101 = .ok (.goto (-52), 3) := by decide +kernel
theorem d_X4_make_104 : decode cX4_make 104 = .ok (.iinc 2 1, 3) := by decide +kernel
theorem d_X4_make_107 : decode cX4_make 107 = .ok (.goto (-97), 3) := by decide +kernel
theorem d_X4_make_110 : decode cX4_make 110 = .ok (.aload_n 0, 1) := by decide +kernel
theorem d_X4_make_111 : decode cX4_make 111 = .ok (.iconst 0, 1) := by decide +kernel
theorem d_X4_make_112 : decode cX4_make 112 = .ok (.putfield 62, 3) := by decide +kernel
theorem d_X4_make_115 : decode cX4_make 115 = .ok (.iconst 0, 1) := by decide +kernel
theorem d_X4_make_116 : decode cX4_make 116 = .ok (.istore_n 2, 1) := by decide +kernel
theorem d_X4_make_117 : decode cX4_make 117 = .ok (.iload_n 2, 1) := by decide +kernel
theorem d_X4_make_118 : decode cX4_make 118 = .ok (.bipush 10, 2) := by decide +kernel
theorem d_X4_make_120 : decode cX4_make 120 = .ok (.if_icmp .ge 14, 3) := by decide +kernel
theorem d_X4_make_123 : decode cX4_make 123 = .ok (.aload_n 0, 1) := by decide +kernel
theorem d_X4_make_124 : decode cX4_make 124 = .ok (.iload_n 2, 1) := by decide +kernel
theorem d_X4_make_125 : decode cX4_make 125 = .ok (.invokevirtual 65, 3) := by decide +kernel
theorem d_X4_make_128 : decode cX4_make 128 = .ok (.iinc 2 1, 3) := by decide +kernel
theorem d_X4_make_131 : decode cX4_make 131 = .ok (.goto (-14), 3) := by decide +kernel
theorem d_X4_make_134 : decode cX4_make 134 = .ok (.return_, 1) := by decide +kernel
set_option maxHeartbeats 4000000 in
set_option maxRecDepth 100000 in
theorem t_X4_make_49 {X : XT_x} {G : GT_g} {z : Mem_m} (C : Cx_ (K_X4_make) X G) (hR : Rx_ X G none) (x0 : Nat) (x1 : Nat) (x2 : Int) (x3 : Nat) (x4 : Nat) (o_x2 : ok_i x2) (k_10 : Mem_m → Int → Option Mem_m) (hk_10 : ∀ (M : Mem_m) (x2 : Int) (o_x2 : ok_i x2), k_10 M x2 = some z → V_ (K_X4_make) X G (Fq_ X G (Qv_ G z)) M 10 [(0, .ref (G.1 + x0)), (1, .ref (G.1 + x1)), (2, iv_i x2)] []) : ∀ (n : Nat) (M : Mem_m) (x5 : Int) (o_x5 : ok_i x5), f_X4_make_49 G.2.2.2 k_10 x0 x1 x2 x3 x4 n M x5 = some z → V_ (K_X4_make) X G (Fq_ X G (Qv_ G z)) M 49 [(0, .ref (G.1 + x0)), (1, .ref (G.1 + x1)), (2, iv_i x2), (3, .ref (G.1 + x3)), (4, .ref (G.1 + x4)), (5, iv_i x5)] [] := by
  intro n
  induction n with
  | zero => intro M x5 o_x5 h; exact absurd h (by simp [f_X4_make_49])
  | succ n ih =>
    intro M x5 o_x5 h
    unfold f_X4_make_49 at h
    refine V_aload_n (j := 3) C d_X4_make_49 rfl rfl ?_
    refine V_getI C ck_10 fw_X4_54 d_X4_make_50 h (fun v1 o1 h => ?_)
    refine V_aload (j := 4) C d_X4_make_53 rfl ?_
    refine V_getI C ck_10 fw_X4_54 d_X4_make_55 h (fun v2 o2 h => ?_)
    refine V_icmp_ne (tgt := 104) C d_X4_make_58 (by decide) o1 o2 h (fun h => ?_) (fun h => ?_)
    · skip
      refine V_iload (j := 5) C d_X4_make_61 rfl ?_
      refine V_aload_n (j := 3) C d_X4_make_63 rfl rfl ?_
      refine V_getI C ck_10 fw_X4_54 d_X4_make_64 h (fun v3 o3 h => ?_)
      refine V_icmp_ge (tgt := 104) C d_X4_make_67 (by decide) o_x5 o3 h (fun h => ?_) (fun h => ?_)
      · skip
        refine V_aload_n (j := 0) C d_X4_make_70 rfl rfl ?_
        refine V_getR C ck_4 fw_X4_9 d_X4_make_71 h (fun v4 h => ?_)
        refine V_aload_n (j := 3) C d_X4_make_74 rfl rfl ?_
        refine V_getR C ck_10 fw_X4_59 d_X4_make_75 h (fun v5 h => ?_)
        refine V_iload (j := 5) C d_X4_make_78 rfl ?_
        refine V_iald C d_X4_make_80 o_x5 h (fun v6 o6 h => ?_)
        refine V_bipush (v := 10) C d_X4_make_81 rfl ?_
        refine V_imul C d_X4_make_83 ?_
        refine V_aload (j := 4) C d_X4_make_84 rfl ?_
        refine V_getR C ck_10 fw_X4_59 d_X4_make_86 h (fun v7 h => ?_)
        refine V_iload (j := 5) C d_X4_make_89 rfl ?_
        refine V_iald C d_X4_make_91 o_x5 h (fun v8 o8 h => ?_)
        refine V_iadd C d_X4_make_92 ?_
        refine V_dup2 C d_X4_make_93 rfl rfl ?_
        refine V_iald C d_X4_make_94 (ok_wr _) h (fun v9 o9 h => ?_)
        refine V_iconst C d_X4_make_95 ?_
        refine V_iadd C d_X4_make_96 ?_
        refine V_iast C d_X4_make_97 (ok_wr _) (ok_wr _) h (fun M10 h => ?_)
        refine V_iinc (j := 5) (lv' := [(5, iv_i (wr_i (x5 + 1))), (0, .ref (G.1 + x0)), (1, .ref (G.1 + x1)), (2, iv_i x2), (3, .ref (G.1 + x3)), (4, .ref (G.1 + x4))]) C d_X4_make_98 rfl (by decide) rfl ?_
        refine V_goto (tgt := 49) C d_X4_make_101 (by decide) ?_
        refine V_lv [1, 2, 3, 4, 5, 0] rfl (ih M10 (wr_i (x5 + 1)) (ok_wr _) h)
      · skip
        refine V_iinc (j := 2) (lv' := [(2, iv_i (wr_i (x2 + 1))), (0, .ref (G.1 + x0)), (1, .ref (G.1 + x1)), (3, .ref (G.1 + x3)), (4, .ref (G.1 + x4)), (5, iv_i x5)]) C d_X4_make_104 rfl (by decide) rfl ?_
        refine V_goto (tgt := 10) C d_X4_make_107 (by decide) ?_
        refine V_lv [1, 2, 0] rfl (hk_10 M (wr_i (x2 + 1)) (ok_wr _) h)
    · skip
      refine V_iinc (j := 2) (lv' := [(2, iv_i (wr_i (x2 + 1))), (0, .ref (G.1 + x0)), (1, .ref (G.1 + x1)), (3, .ref (G.1 + x3)), (4, .ref (G.1 + x4)), (5, iv_i x5)]) C d_X4_make_104 rfl (by decide) rfl ?_
      refine V_goto (tgt := 10) C d_X4_make_107 (by decide) ?_
      refine V_lv [1, 2, 0] rfl (hk_10 M (wr_i (x2 + 1)) (ok_wr _) h)
set_option maxHeartbeats 4000000 in
set_option maxRecDepth 100000 in
theorem t_X4_make_117 {X : XT_x} {G : GT_g} {z : Mem_m} (C : Cx_ (K_X4_make) X G) (hR : Rx_ X G none) (x0 : Nat) : ∀ (n : Nat) (M : Mem_m) (x2 : Int) (o_x2 : ok_i x2), f_X4_make_117 G.2.2.2 x0 n M x2 = some z → V_ (K_X4_make) X G (Fq_ X G (Qv_ G z)) M 117 [(0, .ref (G.1 + x0)), (2, iv_i x2)] [] := by
  intro n
  induction n with
  | zero => intro M x2 o_x2 h; exact absurd h (by simp [f_X4_make_117])
  | succ n ih =>
    intro M x2 o_x2 h
    unfold f_X4_make_117 at h
    refine V_iload_n (j := 1) C d_X4_make_117 rfl rfl ?_
    refine V_bipush (v := 10) C d_X4_make_118 rfl ?_
    refine V_icmp_ge (tgt := 134) C d_X4_make_120 (by decide) o_x2 (okc rfl) h (fun h => ?_) (fun h => ?_)
    · skip
      refine V_aload_n (j := 0) C d_X4_make_123 rfl rfl ?_
      refine V_iload_n (j := 1) C d_X4_make_124 rfl rfl ?_
      refine V_callVwv (K' := K_X4_findLaw) (a := x0) (ci := 4) (av := [iv_i x2]) (rest := []) yi_X4_findLaw (by decide) rfl C (yk_X4_findLaw) l1_X4_65 (by decide) d_X4_make_125 (fun v hv => ct_X4_findLaw x0 x2 o_x2 hv) rfl rfl (Nat.le_of_ble_eq_true rfl) h (fun M1 h => ?_)
      refine V_iinc (j := 1) (lv' := [(2, iv_i (wr_i (x2 + 1))), (0, .ref (G.1 + x0))]) C d_X4_make_128 rfl (by decide) rfl ?_
      refine V_goto (tgt := 117) C d_X4_make_131 (by decide) ?_
      refine V_lv [1, 0] rfl (ih M1 (wr_i (x2 + 1)) (ok_wr _) h)
    · skip
      exact V_vret C hR d_X4_make_134 (Option.some.inj h)
set_option maxHeartbeats 4000000 in
set_option maxRecDepth 100000 in
theorem t_X4_make_10 {X : XT_x} {G : GT_g} {z : Mem_m} (C : Cx_ (K_X4_make) X G) (hR : Rx_ X G none) (x0 : Nat) (x1 : Nat) : ∀ (n : Nat) (M : Mem_m) (x2 : Int) (o_x2 : ok_i x2), f_X4_make_10 G.2.2.2 x0 x1 n M x2 = some z → V_ (K_X4_make) X G (Fq_ X G (Qv_ G z)) M 10 [(0, .ref (G.1 + x0)), (1, .ref (G.1 + x1)), (2, iv_i x2)] [] := by
  intro n
  induction n with
  | zero => intro M x2 o_x2 h; exact absurd h (by simp [f_X4_make_10])
  | succ n ih =>
    intro M x2 o_x2 h
    unfold f_X4_make_10 at h
    refine V_iload_n (j := 2) C d_X4_make_10 rfl rfl ?_
    refine V_aload_n (j := 1) C d_X4_make_11 rfl rfl ?_
    refine V_getI C ck_0 fw_X4_21 d_X4_make_12 h (fun v1 o1 h => ?_)
    refine V_icmp_ge (tgt := 110) C d_X4_make_15 (by decide) o_x2 o1 h (fun h => ?_) (fun h => ?_)
    · skip
      refine V_aload_n (j := 1) C d_X4_make_18 rfl rfl ?_
      refine V_getR C ck_0 fw_X4_37 d_X4_make_19 h (fun v2 h => ?_)
      refine V_aload_n (j := 1) C d_X4_make_22 rfl rfl ?_
      refine V_getR C ck_0 fw_X4_41 d_X4_make_23 h (fun v3 h => ?_)
      refine V_iload_n (j := 2) C d_X4_make_26 rfl rfl ?_
      refine V_iald C d_X4_make_27 o_x2 h (fun v4 o4 h => ?_)
      refine V_aald (t := 0) C tc_0 d_X4_make_28 o4 h (fun v5 h => ?_)
      refine V_getR C ck_1 fw_X4_44 d_X4_make_29 h (fun v6 h => ?_)
      refine V_astore_n (lv' := [(3, .ref (G.1 + v6)), (0, .ref (G.1 + x0)), (1, .ref (G.1 + x1)), (2, iv_i x2)]) C d_X4_make_32 rfl (by decide) rfl ?_
      refine V_aload_n (j := 2) C d_X4_make_33 rfl rfl ?_
      refine V_getR C ck_0 fw_X4_50 d_X4_make_34 h (fun v7 h => ?_)
      refine V_aload_n (j := 1) C d_X4_make_37 rfl rfl ?_
      refine V_getR C ck_4 fw_X4_18 d_X4_make_38 h (fun v8 h => ?_)
      refine V_iload_n (j := 3) C d_X4_make_41 rfl rfl ?_
      refine V_iald C d_X4_make_42 o_x2 h (fun v9 o9 h => ?_)
      refine V_aald (t := 4) C tc_4 d_X4_make_43 o9 h (fun v10 h => ?_)
      refine V_astore (lv' := [(4, .ref (G.1 + v10)), (3, .ref (G.1 + v6)), (0, .ref (G.1 + x0)), (1, .ref (G.1 + x1)), (2, iv_i x2)]) C d_X4_make_44 (by decide) rfl ?_
      refine V_iconst C d_X4_make_46 ?_
      refine V_istore (lv' := [(5, iv_i 0), (4, .ref (G.1 + v10)), (3, .ref (G.1 + v6)), (0, .ref (G.1 + x0)), (1, .ref (G.1 + x1)), (2, iv_i x2)]) C d_X4_make_47 (by decide) rfl ?_
      refine V_lv [3, 4, 5, 2, 1, 0] rfl (t_X4_make_49 C hR x0 x1 x2 v6 v10 o_x2 (fun M x2 => f_X4_make_10 G.2.2.2 x0 x1 n M x2) (fun M x2 o_x2 h9 => ih M x2 o_x2 h9) FU_ M 0 (okc rfl) h)
    · skip
      refine V_aload_n (j := 0) C d_X4_make_110 rfl rfl ?_
      refine V_iconst C d_X4_make_111 ?_
      refine V_putI C ck_4 fw_X4_62 fp_4_2 d_X4_make_112 (okc rfl) h (fun M11 h => ?_)
      refine V_iconst C d_X4_make_115 ?_
      refine V_istore_n (lv' := [(2, iv_i 0), (0, .ref (G.1 + x0)), (1, .ref (G.1 + x1))]) C d_X4_make_116 rfl (by decide) rfl ?_
      refine V_lv [1, 0] rfl (t_X4_make_117 C hR x0 FU_ M11 0 (okc rfl) h)
set_option maxHeartbeats 4000000 in
set_option maxRecDepth 100000 in
theorem t_X4_make {X : XT_x} {G : GT_g} {M : Mem_m} {z : Mem_m} (C : Cx_ (K_X4_make) X G) (hR : Rx_ X G none) (x0 : Nat) (x1 : Nat)  (h : f_X4_make G.2.2.2 M x0 x1 = some z) : V_ (K_X4_make) X G (Fq_ X G (Qv_ G z)) M 0 [(0, .ref (G.1 + x0)), (1, .ref (G.1 + x1))] [] := by
  unfold f_X4_make at h
  refine V_aload_n (j := 0) C d_X4_make_0 rfl rfl ?_
  refine V_getR C ck_4 fw_X4_9 d_X4_make_1 h (fun v1 h => ?_)
  refine V_iconst C d_X4_make_4 ?_
  refine V_callSwv (K' := K_J7_fill_53178) (av := [.ref (G.1 + v1), iv_i 0]) (rest := []) ys_J7_fill_53178 C (yk_J7_fill_53178) l1_X4_31 (by decide) d_X4_make_5 (fun v hv => ct_J7_fill_53178 v1 0 (okc rfl) hv) rfl rfl (Nat.le_of_ble_eq_true rfl) h (fun M2 h => ?_)
  refine V_iconst C d_X4_make_8 ?_
  refine V_istore_n (lv' := [(2, iv_i 0), (0, .ref (G.1 + x0)), (1, .ref (G.1 + x1))]) C d_X4_make_9 rfl (by decide) rfl ?_
  refine V_lv [1, 2, 0] rfl (t_X4_make_10 C hR x0 x1 FU_ M2 0 (okc rfl) h)
set_option maxHeartbeats 4000000 in
set_option maxRecDepth 100000 in
theorem ct_X4_make {l : Launch} {G : GT_g} {M : Mem_m} (x0 : Nat) (x1 : Nat)  {z : Mem_m} (h : f_X4_make G.2.2.2 M x0 x1 = some z) : MV_ l yX4_make K_X4_make none G M [.ref (G.1 + x0), .ref (G.1 + x1)] z :=
  met_of (by decide +kernel) rfl (Nat.le_of_ble_eq_true rfl) (fun X hl C hR => by subst hl; exact t_X4_make C hR x0 x1  h)
theorem d_X4_makeAsTold_0 : decode cX4_makeAsTold 0 = .ok (.iconst 0, 1) := by decide +kernel
theorem d_X4_makeAsTold_1 : decode cX4_makeAsTold 1 = .ok (.istore_n 2, 1) := by decide +kernel
theorem d_X4_makeAsTold_2 : decode cX4_makeAsTold 2 = .ok (.iload_n 2, 1) := by decide +kernel
theorem d_X4_makeAsTold_3 : decode cX4_makeAsTold 3 = .ok (.aload_n 1, 1) := by decide +kernel
theorem d_X4_makeAsTold_4 : decode cX4_makeAsTold 4 = .ok (.getfield 21, 3) := by decide +kernel
theorem d_X4_makeAsTold_7 : decode cX4_makeAsTold 7 = .ok (.if_icmp .ge 16, 3) := by decide +kernel
theorem d_X4_makeAsTold_10 : decode cX4_makeAsTold 10 = .ok (.aload_n 0, 1) := by decide +kernel
theorem d_X4_makeAsTold_11 : decode cX4_makeAsTold 11 = .ok (.getfield 18, 3) := by decide +kernel
theorem d_X4_makeAsTold_14 : decode cX4_makeAsTold 14 = .ok (.iload_n 2, 1) := by decide +kernel
theorem d_X4_makeAsTold_15 : decode cX4_makeAsTold 15 = .ok (.iload_n 2, 1) := by decide +kernel
theorem d_X4_makeAsTold_16 : decode cX4_makeAsTold 16 = .ok (.iastore, 1) := by decide +kernel
theorem d_X4_makeAsTold_17 : decode cX4_makeAsTold 17 = .ok (.iinc 2 1, 3) := by decide +kernel
theorem d_X4_makeAsTold_20 : decode cX4_makeAsTold 20 = .ok (.goto (-18), 3) := by decide +kernel
theorem d_X4_makeAsTold_23 : decode cX4_makeAsTold 23 = .ok (.aload_n 0, 1) := by decide +kernel
theorem d_X4_makeAsTold_24 : decode cX4_makeAsTold 24 = .ok (.aload_n 1, 1) := by decide +kernel
theorem d_X4_makeAsTold_25 : decode cX4_makeAsTold 25 = .ok (.invokevirtual 27, 3) := by decide +kernel
theorem d_X4_makeAsTold_28 : decode cX4_makeAsTold 28 = .ok (.return_, 1) := by decide +kernel
set_option maxHeartbeats 4000000 in
set_option maxRecDepth 100000 in
theorem t_X4_makeAsTold_2 {X : XT_x} {G : GT_g} {z : Mem_m} (C : Cx_ (K_X4_makeAsTold) X G) (hR : Rx_ X G none) (x0 : Nat) (x1 : Nat) : ∀ (n : Nat) (M : Mem_m) (x2 : Int) (o_x2 : ok_i x2), f_X4_makeAsTold_2 G.2.2.2 x0 x1 n M x2 = some z → V_ (K_X4_makeAsTold) X G (Fq_ X G (Qv_ G z)) M 2 [(0, .ref (G.1 + x0)), (1, .ref (G.1 + x1)), (2, iv_i x2)] [] := by
  intro n
  induction n with
  | zero => intro M x2 o_x2 h; exact absurd h (by simp [f_X4_makeAsTold_2])
  | succ n ih =>
    intro M x2 o_x2 h
    unfold f_X4_makeAsTold_2 at h
    refine V_iload_n (j := 2) C d_X4_makeAsTold_2 rfl rfl ?_
    refine V_aload_n (j := 1) C d_X4_makeAsTold_3 rfl rfl ?_
    refine V_getI C ck_0 fw_X4_21 d_X4_makeAsTold_4 h (fun v1 o1 h => ?_)
    refine V_icmp_ge (tgt := 23) C d_X4_makeAsTold_7 (by decide) o_x2 o1 h (fun h => ?_) (fun h => ?_)
    · skip
      refine V_aload_n (j := 0) C d_X4_makeAsTold_10 rfl rfl ?_
      refine V_getR C ck_4 fw_X4_18 d_X4_makeAsTold_11 h (fun v2 h => ?_)
      refine V_iload_n (j := 2) C d_X4_makeAsTold_14 rfl rfl ?_
      refine V_iload_n (j := 2) C d_X4_makeAsTold_15 rfl rfl ?_
      refine V_iast C d_X4_makeAsTold_16 o_x2 o_x2 h (fun M3 h => ?_)
      refine V_iinc (j := 2) (lv' := [(2, iv_i (wr_i (x2 + 1))), (0, .ref (G.1 + x0)), (1, .ref (G.1 + x1))]) C d_X4_makeAsTold_17 rfl (by decide) rfl ?_
      refine V_goto (tgt := 2) C d_X4_makeAsTold_20 (by decide) ?_
      refine V_lv [1, 2, 0] rfl (ih M3 (wr_i (x2 + 1)) (ok_wr _) h)
    · skip
      refine V_aload_n (j := 0) C d_X4_makeAsTold_23 rfl rfl ?_
      refine V_aload_n (j := 1) C d_X4_makeAsTold_24 rfl rfl ?_
      refine V_callVwv (K' := K_X4_make) (a := x0) (ci := 4) (av := [.ref (G.1 + x1)]) (rest := []) yi_X4_make (by decide) rfl C (yk_X4_make) l1_X4_27 (by decide) d_X4_makeAsTold_25 (fun v hv => ct_X4_make x0 x1 hv) rfl rfl (Nat.le_of_ble_eq_true rfl) h (fun M4 h => ?_)
      exact V_vret C hR d_X4_makeAsTold_28 (Option.some.inj h)
set_option maxHeartbeats 4000000 in
set_option maxRecDepth 100000 in
theorem t_X4_makeAsTold {X : XT_x} {G : GT_g} {M : Mem_m} {z : Mem_m} (C : Cx_ (K_X4_makeAsTold) X G) (hR : Rx_ X G none) (x0 : Nat) (x1 : Nat)  (h : f_X4_makeAsTold G.2.2.2 M x0 x1 = some z) : V_ (K_X4_makeAsTold) X G (Fq_ X G (Qv_ G z)) M 0 [(0, .ref (G.1 + x0)), (1, .ref (G.1 + x1))] [] := by
  unfold f_X4_makeAsTold at h
  refine V_iconst C d_X4_makeAsTold_0 ?_
  refine V_istore_n (lv' := [(2, iv_i 0), (0, .ref (G.1 + x0)), (1, .ref (G.1 + x1))]) C d_X4_makeAsTold_1 rfl (by decide) rfl ?_
  refine V_lv [1, 2, 0] rfl (t_X4_makeAsTold_2 C hR x0 x1 FU_ M 0 (okc rfl) h)
set_option maxHeartbeats 4000000 in
set_option maxRecDepth 100000 in
theorem ct_X4_makeAsTold {l : Launch} {G : GT_g} {M : Mem_m} (x0 : Nat) (x1 : Nat)  {z : Mem_m} (h : f_X4_makeAsTold G.2.2.2 M x0 x1 = some z) : MV_ l yX4_makeAsTold K_X4_makeAsTold none G M [.ref (G.1 + x0), .ref (G.1 + x1)] z :=
  met_of (by decide +kernel) rfl (Nat.le_of_ble_eq_true rfl) (fun X hl C hR => by subst hl; exact t_X4_makeAsTold C hR x0 x1  h)
theorem d_X4_isLed_0 : decode cX4_isLed 0 = .ok (.aload_n 1, 1) := by decide +kernel
theorem d_X4_isLed_1 : decode cX4_isLed 1 = .ok (.getfield 54, 3) := by decide +kernel
theorem d_X4_isLed_4 : decode cX4_isLed 4 = .ok (.aload_n 2, 1) := by decide +kernel
theorem d_X4_isLed_5 : decode cX4_isLed 5 = .ok (.getfield 54, 3) := by decide +kernel
theorem d_X4_isLed_8 : decode cX4_isLed 8 = .ok (.if_icmp .eq 5, 3) := by decide +kernel
theorem d_X4_isLed_11 : decode cX4_isLed 11 = .ok (.iconst 0, 1) := by decide +kernel
theorem d_X4_isLed_12 : decode cX4_isLed 12 = .ok (.ireturn, 1) := by decide +kernel
theorem d_X4_isLed_13 : decode cX4_isLed 13 = .ok (.iconst 0, 1) := by decide +kernel
theorem d_X4_isLed_14 : decode cX4_isLed 14 = .ok (.istore_n 3, 1) := by decide +kernel
theorem d_X4_isLed_15 : decode cX4_isLed 15 = .ok (.iload_n 3, 1) := by decide +kernel
theorem d_X4_isLed_16 : decode cX4_isLed 16 = .ok (.aload_n 1, 1) := by decide +kernel
theorem d_X4_isLed_17 : decode cX4_isLed 17 = .ok (.getfield 54, 3) := by decide +kernel
theorem d_X4_isLed_20 : decode cX4_isLed 20 = .ok (.if_icmp .ge 31, 3) := by decide +kernel
theorem d_X4_isLed_23 : decode cX4_isLed 23 = .ok (.aload_n 0, 1) := by decide +kernel
theorem d_X4_isLed_24 : decode cX4_isLed 24 = .ok (.getfield 15, 3) := by decide +kernel
theorem d_X4_isLed_27 : decode cX4_isLed 27 = .ok (.aload_n 1, 1) := by decide +kernel
theorem d_X4_isLed_28 : decode cX4_isLed 28 = .ok (.getfield 59, 3) := by decide +kernel
theorem d_X4_isLed_31 : decode cX4_isLed 31 = .ok (.iload_n 3, 1) := by decide +kernel
theorem d_X4_isLed_32 : decode cX4_isLed 32 = .ok (.iaload, 1) := by decide +kernel
theorem d_X4_isLed_33 : decode cX4_isLed 33 = .ok (.iaload, 1) := by decide +kernel
theorem d_X4_isLed_34 : decode cX4_isLed 34 = .ok (.aload_n 2, 1) := by decide +kernel
theorem d_X4_isLed_35 : decode cX4_isLed 35 = .ok (.getfield 59, 3) := by decide +kernel
theorem d_X4_isLed_38 : decode cX4_isLed 38 = .ok (.iload_n 3, 1) := by decide +kernel
theorem d_X4_isLed_39 : decode cX4_isLed 39 = .ok (.iaload, 1) := by decide +kernel
theorem d_X4_isLed_40 : decode cX4_isLed 40 = .ok (.if_icmp .eq 5, 3) := by decide +kernel
theorem d_X4_isLed_43 : decode cX4_isLed 43 = .ok (.iconst 0, 1) := by decide +kernel
theorem d_X4_isLed_44 : decode cX4_isLed 44 = .ok (.ireturn, 1) := by decide +kernel
theorem d_X4_isLed_45 : decode cX4_isLed 45 = .ok (.iinc 3 1, 3) := by decide +kernel
theorem d_X4_isLed_48 : decode cX4_isLed 48 = .ok (.goto (-33), 3) := by decide +kernel
theorem d_X4_isLed_51 : decode cX4_isLed 51 = .ok (.iconst 1, 1) := by decide +kernel
theorem d_X4_isLed_52 : decode cX4_isLed 52 = .ok (.ireturn, 1) := by decide +kernel
set_option maxHeartbeats 4000000 in
set_option maxRecDepth 100000 in
theorem t_X4_isLed_15 {X : XT_x} {G : GT_g} {z : Int} (C : Cx_ (K_X4_isLed) X G) (hR : Rx_ X G (some .boolean)) (M : Mem_m) (x0 : Nat) (x1 : Nat) (x2 : Nat) : ∀ (n : Nat) (x3 : Int) (o_x3 : ok_i x3), f_X4_isLed_15 G.2.2.2 M x0 x1 x2 n x3 = some z → V_ (K_X4_isLed) X G (Fq_ X G (Qi_ G M z)) M 15 [(0, .ref (G.1 + x0)), (1, .ref (G.1 + x1)), (2, .ref (G.1 + x2)), (3, iv_i x3)] [] := by
  intro n
  induction n with
  | zero => intro x3 o_x3 h; exact absurd h (by simp [f_X4_isLed_15])
  | succ n ih =>
    intro x3 o_x3 h
    unfold f_X4_isLed_15 at h
    refine V_iload_n (j := 3) C d_X4_isLed_15 rfl rfl ?_
    refine V_aload_n (j := 1) C d_X4_isLed_16 rfl rfl ?_
    refine V_getI C ck_10 fw_X4_54 d_X4_isLed_17 h (fun v1 o1 h => ?_)
    refine V_icmp_ge (tgt := 51) C d_X4_isLed_20 (by decide) o_x3 o1 h (fun h => ?_) (fun h => ?_)
    · skip
      refine V_aload_n (j := 0) C d_X4_isLed_23 rfl rfl ?_
      refine V_getR C ck_4 fw_X4_15 d_X4_isLed_24 h (fun v2 h => ?_)
      refine V_aload_n (j := 1) C d_X4_isLed_27 rfl rfl ?_
      refine V_getR C ck_10 fw_X4_59 d_X4_isLed_28 h (fun v3 h => ?_)
      refine V_iload_n (j := 3) C d_X4_isLed_31 rfl rfl ?_
      refine V_iald C d_X4_isLed_32 o_x3 h (fun v4 o4 h => ?_)
      refine V_iald C d_X4_isLed_33 o4 h (fun v5 o5 h => ?_)
      refine V_aload_n (j := 2) C d_X4_isLed_34 rfl rfl ?_
      refine V_getR C ck_10 fw_X4_59 d_X4_isLed_35 h (fun v6 h => ?_)
      refine V_iload_n (j := 3) C d_X4_isLed_38 rfl rfl ?_
      refine V_iald C d_X4_isLed_39 o_x3 h (fun v7 o7 h => ?_)
      refine V_icmp_eq (tgt := 45) C d_X4_isLed_40 (by decide) o5 o7 h (fun h => ?_) (fun h => ?_)
      · skip
        refine V_iinc (j := 3) (lv' := [(3, iv_i (wr_i (x3 + 1))), (0, .ref (G.1 + x0)), (1, .ref (G.1 + x1)), (2, .ref (G.1 + x2))]) C d_X4_isLed_45 rfl (by decide) rfl ?_
        refine V_goto (tgt := 15) C d_X4_isLed_48 (by decide) ?_
        refine V_lv [1, 2, 3, 0] rfl (ih (wr_i (x3 + 1)) (ok_wr _) h)
      · skip
        refine V_iconst C d_X4_isLed_43 ?_
        exact V_zret_r C hR d_X4_isLed_44 (Or.inl rfl) h
    · skip
      refine V_iconst C d_X4_isLed_51 ?_
      exact V_zret_r C hR d_X4_isLed_52 (Or.inr rfl) h
set_option maxHeartbeats 4000000 in
set_option maxRecDepth 100000 in
theorem t_X4_isLed {X : XT_x} {G : GT_g} {M : Mem_m} {z : Int} (C : Cx_ (K_X4_isLed) X G) (hR : Rx_ X G (some .boolean)) (x0 : Nat) (x1 : Nat) (x2 : Nat)  (h : f_X4_isLed G.2.2.2 M x0 x1 x2 = some z) : V_ (K_X4_isLed) X G (Fq_ X G (Qi_ G M z)) M 0 [(0, .ref (G.1 + x0)), (1, .ref (G.1 + x1)), (2, .ref (G.1 + x2))] [] := by
  unfold f_X4_isLed at h
  refine V_aload_n (j := 1) C d_X4_isLed_0 rfl rfl ?_
  refine V_getI C ck_10 fw_X4_54 d_X4_isLed_1 h (fun v1 o1 h => ?_)
  refine V_aload_n (j := 2) C d_X4_isLed_4 rfl rfl ?_
  refine V_getI C ck_10 fw_X4_54 d_X4_isLed_5 h (fun v2 o2 h => ?_)
  refine V_icmp_eq (tgt := 13) C d_X4_isLed_8 (by decide) o1 o2 h (fun h => ?_) (fun h => ?_)
  · skip
    refine V_iconst C d_X4_isLed_13 ?_
    refine V_istore_n (lv' := [(3, iv_i 0), (0, .ref (G.1 + x0)), (1, .ref (G.1 + x1)), (2, .ref (G.1 + x2))]) C d_X4_isLed_14 rfl (by decide) rfl ?_
    refine V_lv [1, 2, 3, 0] rfl (t_X4_isLed_15 C hR M x0 x1 x2 FU_ 0 (okc rfl) h)
  · skip
    refine V_iconst C d_X4_isLed_11 ?_
    exact V_zret_r C hR d_X4_isLed_12 (Or.inl rfl) h
set_option maxHeartbeats 4000000 in
set_option maxRecDepth 100000 in
theorem ct_X4_isLed {l : Launch} {G : GT_g} {M : Mem_m} (x0 : Nat) (x1 : Nat) (x2 : Nat)  {z : Int} (h : f_X4_isLed G.2.2.2 M x0 x1 x2 = some z) : MI_ l yX4_isLed K_X4_isLed (some .boolean) G M [.ref (G.1 + x0), .ref (G.1 + x1), .ref (G.1 + x2)] M z :=
  met_of (by decide +kernel) rfl (Nat.le_of_ble_eq_true rfl) (fun X hl C hR => by subst hl; exact t_X4_isLed C hR x0 x1 x2  h)
theorem d_X4_ledPairs_0 : decode cX4_ledPairs 0 = .ok (.iconst 0, 1) := by decide +kernel
theorem d_X4_ledPairs_1 : decode cX4_ledPairs 1 = .ok (.istore_n 2, 1) := by decide +kernel
theorem d_X4_ledPairs_2 : decode cX4_ledPairs 2 = .ok (.iconst 0, 1) := by decide +kernel
theorem d_X4_ledPairs_3 : decode cX4_ledPairs 3 = .ok (.istore_n 3, 1) := by decide +kernel
theorem d_X4_ledPairs_4 : decode cX4_ledPairs 4 = .ok (.iload_n 3, 1) := by decide +kernel
theorem d_X4_ledPairs_5 : decode cX4_ledPairs 5 = .ok (.aload_n 1, 1) := by decide +kernel
theorem d_X4_ledPairs_6 : decode cX4_ledPairs 6 = .ok (.getfield 21, 3) := by decide +kernel
theorem d_X4_ledPairs_9 : decode cX4_ledPairs 9 = .ok (.if_icmp .ge 39, 3) := by decide +kernel
theorem d_X4_ledPairs_12 : decode cX4_ledPairs 12 = .ok (.aload_n 0, 1) := by decide +kernel
theorem d_X4_ledPairs_13 : decode cX4_ledPairs 13 = .ok (.aload_n 1, 1) := by decide +kernel
theorem d_X4_ledPairs_14 : decode cX4_ledPairs 14 = .ok (.getfield 37, 3) := by decide +kernel
theorem d_X4_ledPairs_17 : decode cX4_ledPairs 17 = .ok (.aload_n 1, 1) := by decide +kernel
theorem d_X4_ledPairs_18 : decode cX4_ledPairs 18 = .ok (.getfield 41, 3) := by decide +kernel
theorem d_X4_ledPairs_21 : decode cX4_ledPairs 21 = .ok (.iload_n 3, 1) := by decide +kernel
theorem d_X4_ledPairs_22 : decode cX4_ledPairs 22 = .ok (.iaload, 1) := by decide +kernel
theorem d_X4_ledPairs_23 : decode cX4_ledPairs 23 = .ok (.aaload, 1) := by decide +kernel
theorem d_X4_ledPairs_24 : decode cX4_ledPairs 24 = .ok (.getfield 44, 3) := by decide +kernel
theorem d_X4_ledPairs_27 : decode cX4_ledPairs 27 = .ok (.aload_n 1, 1) := by decide +kernel
theorem d_X4_ledPairs_28 : decode cX4_ledPairs 28 = .ok (.getfield 50, 3) := by decide +kernel
theorem d_X4_ledPairs_31 : decode cX4_ledPairs 31 = .ok (.iload_n 3, 1) := by decide +kernel
theorem d_X4_ledPairs_32 : decode cX4_ledPairs 32 = .ok (.aaload, 1) := by decide +kernel
theorem d_X4_ledPairs_33 : decode cX4_ledPairs 33 = .ok (.invokevirtual 69, 3) := by decide +kernel
theorem d_X4_ledPairs_36 : decode cX4_ledPairs 36 = .ok (.ifCond .eq 6, 3) := by decide +kernel
theorem d_X4_ledPairs_39 : decode cX4_ledPairs 39 = .ok (.iinc 2 1, 3) := by decide +kernel
theorem d_X4_ledPairs_42 : decode cX4_ledPairs 42 = .ok (.iinc 3 1, 3) := by decide +kernel
theorem d_X4_ledPairs_45 : decode cX4_ledPairs 45 = .ok (.goto (-41), 3) := by decide +kernel
theorem d_X4_ledPairs_48 : decode cX4_ledPairs 48 = .ok (.iload_n 2, 1) := by decide +kernel
theorem d_X4_ledPairs_49 : decode cX4_ledPairs 49 = .ok (.ireturn, 1) := by decide +kernel
set_option maxHeartbeats 4000000 in
set_option maxRecDepth 100000 in
theorem t_X4_ledPairs_4 {X : XT_x} {G : GT_g} {z : Int} (C : Cx_ (K_X4_ledPairs) X G) (hR : Rx_ X G (some .int)) (M : Mem_m) (x0 : Nat) (x1 : Nat) : ∀ (n : Nat) (x2 : Int) (x3 : Int) (o_x2 : ok_i x2) (o_x3 : ok_i x3), f_X4_ledPairs_4 G.2.2.2 M x0 x1 n x2 x3 = some z → V_ (K_X4_ledPairs) X G (Fq_ X G (Qi_ G M z)) M 4 [(0, .ref (G.1 + x0)), (1, .ref (G.1 + x1)), (2, iv_i x2), (3, iv_i x3)] [] := by
  intro n
  induction n with
  | zero => intro x2 x3 o_x2 o_x3 h; exact absurd h (by simp [f_X4_ledPairs_4])
  | succ n ih =>
    intro x2 x3 o_x2 o_x3 h
    unfold f_X4_ledPairs_4 at h
    refine V_iload_n (j := 3) C d_X4_ledPairs_4 rfl rfl ?_
    refine V_aload_n (j := 1) C d_X4_ledPairs_5 rfl rfl ?_
    refine V_getI C ck_0 fw_X4_21 d_X4_ledPairs_6 h (fun v1 o1 h => ?_)
    refine V_icmp_ge (tgt := 48) C d_X4_ledPairs_9 (by decide) o_x3 o1 h (fun h => ?_) (fun h => ?_)
    · skip
      refine V_aload_n (j := 0) C d_X4_ledPairs_12 rfl rfl ?_
      refine V_aload_n (j := 1) C d_X4_ledPairs_13 rfl rfl ?_
      refine V_getR C ck_0 fw_X4_37 d_X4_ledPairs_14 h (fun v2 h => ?_)
      refine V_aload_n (j := 1) C d_X4_ledPairs_17 rfl rfl ?_
      refine V_getR C ck_0 fw_X4_41 d_X4_ledPairs_18 h (fun v3 h => ?_)
      refine V_iload_n (j := 3) C d_X4_ledPairs_21 rfl rfl ?_
      refine V_iald C d_X4_ledPairs_22 o_x3 h (fun v4 o4 h => ?_)
      refine V_aald (t := 0) C tc_0 d_X4_ledPairs_23 o4 h (fun v5 h => ?_)
      refine V_getR C ck_1 fw_X4_44 d_X4_ledPairs_24 h (fun v6 h => ?_)
      refine V_aload_n (j := 1) C d_X4_ledPairs_27 rfl rfl ?_
      refine V_getR C ck_0 fw_X4_50 d_X4_ledPairs_28 h (fun v7 h => ?_)
      refine V_iload_n (j := 3) C d_X4_ledPairs_31 rfl rfl ?_
      refine V_aald (t := 4) C tc_4 d_X4_ledPairs_32 o_x3 h (fun v8 h => ?_)
      refine V_callVri (K' := K_X4_isLed) (a := x0) (ci := 4) (av := [.ref (G.1 + v6), .ref (G.1 + v8)]) (rest := []) yi_X4_isLed (by decide) rfl C (yk_X4_isLed) l1_X4_69 (by decide) d_X4_ledPairs_33 (fun v hv => ct_X4_isLed x0 v6 v8 hv) rfl rfl (Nat.le_of_ble_eq_true rfl) h (fun v9 o9 h => ?_)
      refine V_if_eq (tgt := 42) C d_X4_ledPairs_36 (by decide) o9 h (fun h => ?_) (fun h => ?_)
      · skip
        refine V_iinc (j := 3) (lv' := [(3, iv_i (wr_i (x3 + 1))), (0, .ref (G.1 + x0)), (1, .ref (G.1 + x1)), (2, iv_i x2)]) C d_X4_ledPairs_42 rfl (by decide) rfl ?_
        refine V_goto (tgt := 4) C d_X4_ledPairs_45 (by decide) ?_
        refine V_lv [1, 2, 3, 0] rfl (ih x2 (wr_i (x3 + 1)) o_x2 (ok_wr _) h)
      · skip
        refine V_iinc (j := 2) (lv' := [(2, iv_i (wr_i (x2 + 1))), (0, .ref (G.1 + x0)), (1, .ref (G.1 + x1)), (3, iv_i x3)]) C d_X4_ledPairs_39 rfl (by decide) rfl ?_
        refine V_iinc (j := 3) (lv' := [(3, iv_i (wr_i (x3 + 1))), (2, iv_i (wr_i (x2 + 1))), (0, .ref (G.1 + x0)), (1, .ref (G.1 + x1))]) C d_X4_ledPairs_42 rfl (by decide) rfl ?_
        refine V_goto (tgt := 4) C d_X4_ledPairs_45 (by decide) ?_
        refine V_lv [2, 3, 1, 0] rfl (ih (wr_i (x2 + 1)) (wr_i (x3 + 1)) (ok_wr _) (ok_wr _) h)
    · skip
      refine V_iload_n (j := 2) C d_X4_ledPairs_48 rfl rfl ?_
      exact V_iret_r C hR d_X4_ledPairs_49 o_x2 h
set_option maxHeartbeats 4000000 in
set_option maxRecDepth 100000 in
theorem t_X4_ledPairs {X : XT_x} {G : GT_g} {M : Mem_m} {z : Int} (C : Cx_ (K_X4_ledPairs) X G) (hR : Rx_ X G (some .int)) (x0 : Nat) (x1 : Nat)  (h : f_X4_ledPairs G.2.2.2 M x0 x1 = some z) : V_ (K_X4_ledPairs) X G (Fq_ X G (Qi_ G M z)) M 0 [(0, .ref (G.1 + x0)), (1, .ref (G.1 + x1))] [] := by
  unfold f_X4_ledPairs at h
  refine V_iconst C d_X4_ledPairs_0 ?_
  refine V_istore_n (lv' := [(2, iv_i 0), (0, .ref (G.1 + x0)), (1, .ref (G.1 + x1))]) C d_X4_ledPairs_1 rfl (by decide) rfl ?_
  refine V_iconst C d_X4_ledPairs_2 ?_
  refine V_istore_n (lv' := [(3, iv_i 0), (2, iv_i 0), (0, .ref (G.1 + x0)), (1, .ref (G.1 + x1))]) C d_X4_ledPairs_3 rfl (by decide) rfl ?_
  refine V_lv [2, 3, 1, 0] rfl (t_X4_ledPairs_4 C hR M x0 x1 FU_ 0 0 (okc rfl) (okc rfl) h)
set_option maxHeartbeats 4000000 in
set_option maxRecDepth 100000 in
theorem ct_X4_ledPairs {l : Launch} {G : GT_g} {M : Mem_m} (x0 : Nat) (x1 : Nat)  {z : Int} (h : f_X4_ledPairs G.2.2.2 M x0 x1 = some z) : MI_ l yX4_ledPairs K_X4_ledPairs (some .int) G M [.ref (G.1 + x0), .ref (G.1 + x1)] M z :=
  met_of (by decide +kernel) rfl (Nat.le_of_ble_eq_true rfl) (fun X hl C hR => by subst hl; exact t_X4_ledPairs C hR x0 x1  h)
theorem d_X4_waysToDeal_0 : decode cX4_waysToDeal 0 = .ok (.iconst 1, 1) := by decide +kernel
theorem d_X4_waysToDeal_1 : decode cX4_waysToDeal 1 = .ok (.istore_n 1, 1) := by decide +kernel
theorem d_X4_waysToDeal_2 : decode cX4_waysToDeal 2 = .ok (.iconst 2, 1) := by decide +kernel
theorem d_X4_waysToDeal_3 : decode cX4_waysToDeal 3 = .ok (.istore_n 2, 1) := by decide +kernel
theorem d_X4_waysToDeal_4 : decode cX4_waysToDeal 4 = .ok (.iload_n 2, 1) := by decide +kernel
theorem d_X4_waysToDeal_5 : decode cX4_waysToDeal 5 = .ok (.iload_n 0, 1) := by decide +kernel
theorem d_X4_waysToDeal_6 : decode cX4_waysToDeal 6 = .ok (.if_icmp .gt 13, 3) := by decide +kernel
theorem d_X4_waysToDeal_9 : decode cX4_waysToDeal 9 = .ok (.iload_n 1, 1) := by decide +kernel
theorem d_X4_waysToDeal_10 : decode cX4_waysToDeal 10 = .ok (.iload_n 2, 1) := by decide +kernel
theorem d_X4_waysToDeal_11 : decode cX4_waysToDeal 11 = .ok (.imul, 1) := by decide +kernel
theorem d_X4_waysToDeal_12 : decode cX4_waysToDeal 12 = .ok (.istore_n 1, 1) := by decide +kernel
theorem d_X4_waysToDeal_13 : decode cX4_waysToDeal 13 = .ok (.iinc 2 1, 3) := by decide +kernel
theorem d_X4_waysToDeal_16 : decode cX4_waysToDeal 16 = .ok (.goto (-12), 3) := by decide +kernel
theorem d_X4_waysToDeal_19 : decode cX4_waysToDeal 19 = .ok (.iload_n 1, 1) := by decide +kernel
theorem d_X4_waysToDeal_20 : decode cX4_waysToDeal 20 = .ok (.ireturn, 1) := by decide +kernel
set_option maxHeartbeats 4000000 in
set_option maxRecDepth 100000 in
theorem t_X4_waysToDeal_4 {X : XT_x} {G : GT_g} {z : Int} (C : Cx_ (K_X4_waysToDeal) X G) (hR : Rx_ X G (some .int)) (M : Mem_m) (x0 : Int) (o_x0 : ok_i x0) : ∀ (n : Nat) (x1 : Int) (x2 : Int) (o_x1 : ok_i x1) (o_x2 : ok_i x2), f_X4_waysToDeal_4 G.2.2.2 M x0 n x1 x2 = some z → V_ (K_X4_waysToDeal) X G (Fq_ X G (Qi_ G M z)) M 4 [(0, iv_i x0), (1, iv_i x1), (2, iv_i x2)] [] := by
  intro n
  induction n with
  | zero => intro x1 x2 o_x1 o_x2 h; exact absurd h (by simp [f_X4_waysToDeal_4])
  | succ n ih =>
    intro x1 x2 o_x1 o_x2 h
    unfold f_X4_waysToDeal_4 at h
    refine V_iload_n (j := 2) C d_X4_waysToDeal_4 rfl rfl ?_
    refine V_iload_n (j := 0) C d_X4_waysToDeal_5 rfl rfl ?_
    refine V_icmp_gt (tgt := 19) C d_X4_waysToDeal_6 (by decide) o_x2 o_x0 h (fun h => ?_) (fun h => ?_)
    · skip
      refine V_iload_n (j := 1) C d_X4_waysToDeal_9 rfl rfl ?_
      refine V_iload_n (j := 2) C d_X4_waysToDeal_10 rfl rfl ?_
      refine V_imul C d_X4_waysToDeal_11 ?_
      refine V_istore_n (lv' := [(1, iv_i (wr_i (x1 * x2))), (0, iv_i x0), (2, iv_i x2)]) C d_X4_waysToDeal_12 rfl (by decide) rfl ?_
      refine V_iinc (j := 2) (lv' := [(2, iv_i (wr_i (x2 + 1))), (1, iv_i (wr_i (x1 * x2))), (0, iv_i x0)]) C d_X4_waysToDeal_13 rfl (by decide) rfl ?_
      refine V_goto (tgt := 4) C d_X4_waysToDeal_16 (by decide) ?_
      refine V_lv [2, 1, 0] rfl (ih (wr_i (x1 * x2)) (wr_i (x2 + 1)) (ok_wr _) (ok_wr _) h)
    · skip
      refine V_iload_n (j := 1) C d_X4_waysToDeal_19 rfl rfl ?_
      exact V_iret_r C hR d_X4_waysToDeal_20 o_x1 h
set_option maxHeartbeats 4000000 in
set_option maxRecDepth 100000 in
theorem t_X4_waysToDeal {X : XT_x} {G : GT_g} {M : Mem_m} {z : Int} (C : Cx_ (K_X4_waysToDeal) X G) (hR : Rx_ X G (some .int)) (x0 : Int) (o_x0 : ok_i x0) (h : f_X4_waysToDeal G.2.2.2 M x0 = some z) : V_ (K_X4_waysToDeal) X G (Fq_ X G (Qi_ G M z)) M 0 [(0, iv_i x0)] [] := by
  unfold f_X4_waysToDeal at h
  refine V_iconst C d_X4_waysToDeal_0 ?_
  refine V_istore_n (lv' := [(1, iv_i 1), (0, iv_i x0)]) C d_X4_waysToDeal_1 rfl (by decide) rfl ?_
  refine V_iconst C d_X4_waysToDeal_2 ?_
  refine V_istore_n (lv' := [(2, iv_i 2), (1, iv_i 1), (0, iv_i x0)]) C d_X4_waysToDeal_3 rfl (by decide) rfl ?_
  refine V_lv [2, 1, 0] rfl (t_X4_waysToDeal_4 C hR M x0 o_x0 FU_ 1 2 (okc rfl) (okc rfl) h)
set_option maxHeartbeats 4000000 in
set_option maxRecDepth 100000 in
theorem ct_X4_waysToDeal {l : Launch} {G : GT_g} {M : Mem_m} (x0 : Int) (o_x0 : ok_i x0) {z : Int} (h : f_X4_waysToDeal G.2.2.2 M x0 = some z) : MI_ l yX4_waysToDeal K_X4_waysToDeal (some .int) G M [iv_i x0] M z :=
  met_of (by decide +kernel) rfl (Nat.le_of_ble_eq_true rfl) (fun X hl C hR => by subst hl; exact t_X4_waysToDeal C hR x0 o_x0 h)
theorem d_X4_swap_0 : decode cX4_swap 0 = .ok (.aload_n 0, 1) := by decide +kernel
theorem d_X4_swap_1 : decode cX4_swap 1 = .ok (.getfield 18, 3) := by decide +kernel
theorem d_X4_swap_4 : decode cX4_swap 4 = .ok (.iload_n 1, 1) := by decide +kernel
theorem d_X4_swap_5 : decode cX4_swap 5 = .ok (.iaload, 1) := by decide +kernel
theorem d_X4_swap_6 : decode cX4_swap 6 = .ok (.istore_n 3, 1) := by decide +kernel
theorem d_X4_swap_7 : decode cX4_swap 7 = .ok (.aload_n 0, 1) := by decide +kernel
theorem d_X4_swap_8 : decode cX4_swap 8 = .ok (.getfield 18, 3) := by decide +kernel
theorem d_X4_swap_11 : decode cX4_swap 11 = .ok (.iload_n 1, 1) := by decide +kernel
theorem d_X4_swap_12 : decode cX4_swap 12 = .ok (.aload_n 0, 1) := by decide +kernel
theorem d_X4_swap_13 : decode cX4_swap 13 = .ok (.getfield 18, 3) := by decide +kernel
theorem d_X4_swap_16 : decode cX4_swap 16 = .ok (.iload_n 2, 1) := by decide +kernel
theorem d_X4_swap_17 : decode cX4_swap 17 = .ok (.iaload, 1) := by decide +kernel
theorem d_X4_swap_18 : decode cX4_swap 18 = .ok (.iastore, 1) := by decide +kernel
theorem d_X4_swap_19 : decode cX4_swap 19 = .ok (.aload_n 0, 1) := by decide +kernel
theorem d_X4_swap_20 : decode cX4_swap 20 = .ok (.getfield 18, 3) := by decide +kernel
theorem d_X4_swap_23 : decode cX4_swap 23 = .ok (.iload_n 2, 1) := by decide +kernel
theorem d_X4_swap_24 : decode cX4_swap 24 = .ok (.iload_n 3, 1) := by decide +kernel
theorem d_X4_swap_25 : decode cX4_swap 25 = .ok (.iastore, 1) := by decide +kernel
theorem d_X4_swap_26 : decode cX4_swap 26 = .ok (.return_, 1) := by decide +kernel
set_option maxHeartbeats 4000000 in
set_option maxRecDepth 100000 in
theorem t_X4_swap {X : XT_x} {G : GT_g} {M : Mem_m} {z : Mem_m} (C : Cx_ (K_X4_swap) X G) (hR : Rx_ X G none) (x0 : Nat) (x1 : Int) (x2 : Int) (o_x1 : ok_i x1) (o_x2 : ok_i x2) (h : f_X4_swap G.2.2.2 M x0 x1 x2 = some z) : V_ (K_X4_swap) X G (Fq_ X G (Qv_ G z)) M 0 [(0, .ref (G.1 + x0)), (1, iv_i x1), (2, iv_i x2)] [] := by
  unfold f_X4_swap at h
  refine V_aload_n (j := 0) C d_X4_swap_0 rfl rfl ?_
  refine V_getR C ck_4 fw_X4_18 d_X4_swap_1 h (fun v1 h => ?_)
  refine V_iload_n (j := 1) C d_X4_swap_4 rfl rfl ?_
  refine V_iald C d_X4_swap_5 o_x1 h (fun v2 o2 h => ?_)
  refine V_istore_n (lv' := [(3, iv_i v2), (0, .ref (G.1 + x0)), (1, iv_i x1), (2, iv_i x2)]) C d_X4_swap_6 rfl (by decide) rfl ?_
  refine V_aload_n (j := 1) C d_X4_swap_7 rfl rfl ?_
  refine V_getR C ck_4 fw_X4_18 d_X4_swap_8 h (fun v3 h => ?_)
  refine V_iload_n (j := 2) C d_X4_swap_11 rfl rfl ?_
  refine V_aload_n (j := 1) C d_X4_swap_12 rfl rfl ?_
  refine V_getR C ck_4 fw_X4_18 d_X4_swap_13 h (fun v4 h => ?_)
  refine V_iload_n (j := 3) C d_X4_swap_16 rfl rfl ?_
  refine V_iald C d_X4_swap_17 o_x2 h (fun v5 o5 h => ?_)
  refine V_iast C d_X4_swap_18 o_x1 o5 h (fun M6 h => ?_)
  refine V_aload_n (j := 1) C d_X4_swap_19 rfl rfl ?_
  refine V_getR C ck_4 fw_X4_18 d_X4_swap_20 h (fun v7 h => ?_)
  refine V_iload_n (j := 3) C d_X4_swap_23 rfl rfl ?_
  refine V_iload_n (j := 0) C d_X4_swap_24 rfl rfl ?_
  refine V_iast C d_X4_swap_25 o_x2 o2 h (fun M8 h => ?_)
  exact V_vret C hR d_X4_swap_26 (Option.some.inj h)
set_option maxHeartbeats 4000000 in
set_option maxRecDepth 100000 in
theorem ct_X4_swap {l : Launch} {G : GT_g} {M : Mem_m} (x0 : Nat) (x1 : Int) (x2 : Int) (o_x1 : ok_i x1) (o_x2 : ok_i x2) {z : Mem_m} (h : f_X4_swap G.2.2.2 M x0 x1 x2 = some z) : MV_ l yX4_swap K_X4_swap none G M [.ref (G.1 + x0), iv_i x1, iv_i x2] z :=
  met_of (by decide +kernel) rfl (Nat.le_of_ble_eq_true rfl) (fun X hl C hR => by subst hl; exact t_X4_swap C hR x0 x1 x2 o_x1 o_x2 h)
theorem d_X4_dealAnew_0 : decode cX4_dealAnew 0 = .ok (.iload_n 1, 1) := by decide +kernel
theorem d_X4_dealAnew_1 : decode cX4_dealAnew 1 = .ok (.iconst 2, 1) := by decide +kernel
theorem d_X4_dealAnew_2 : decode cX4_dealAnew 2 = .ok (.isub, 1) := by decide +kernel
theorem d_X4_dealAnew_3 : decode cX4_dealAnew 3 = .ok (.istore_n 2, 1) := by decide +kernel
theorem d_X4_dealAnew_4 : decode cX4_dealAnew 4 = .ok (.iload_n 2, 1) := by decide +kernel
theorem d_X4_dealAnew_5 : decode cX4_dealAnew 5 = .ok (.ifCond .lt 26, 3) := by decide +kernel
theorem d_X4_dealAnew_8 : decode cX4_dealAnew 8 = .ok (.aload_n 0, 1) := by decide +kernel
theorem d_X4_dealAnew_9 : decode cX4_dealAnew 9 = .ok (.getfield 18, 3) := by decide +kernel
theorem d_X4_dealAnew_12 : decode cX4_dealAnew 12 = .ok (.iload_n 2, 1) := by decide +kernel
theorem d_X4_dealAnew_13 : decode cX4_dealAnew 13 = .ok (.iaload, 1) := by decide +kernel
theorem d_X4_dealAnew_14 : decode cX4_dealAnew 14 = .ok (.aload_n 0, 1) := by decide +kernel
theorem d_X4_dealAnew_15 : decode cX4_dealAnew 15 = .ok (.getfield 18, 3) := by decide +kernel
theorem d_X4_dealAnew_18 : decode cX4_dealAnew 18 = .ok (.iload_n 2, 1) := by decide +kernel
theorem d_X4_dealAnew_19 : decode cX4_dealAnew 19 = .ok (.iconst 1, 1) := by decide +kernel
theorem d_X4_dealAnew_20 : decode cX4_dealAnew 20 = .ok (.iadd, 1) := by decide +kernel
theorem d_X4_dealAnew_21 : decode cX4_dealAnew 21 = .ok (.iaload, 1) := by decide +kernel
theorem d_X4_dealAnew_22 : decode cX4_dealAnew 22 = .ok (.if_icmp .le 9, 3) := by decide +kernel
theorem d_X4_dealAnew_25 : decode cX4_dealAnew 25 = .ok (.iinc 2 (-1), 3) := by decide +kernel
theorem d_X4_dealAnew_28 : decode cX4_dealAnew 28 = .ok (.goto (-24), 3) := by decide +kernel
theorem d_X4_dealAnew_31 : decode cX4_dealAnew 31 = .ok (.iload_n 2, 1) := by decide +kernel
theorem d_X4_dealAnew_32 : decode cX4_dealAnew 32 = .ok (.ifCond .ge 4, 3) := by decide +kernel
theorem d_X4_dealAnew_35 : decode cX4_dealAnew 35 = .ok (.return_, 1) := by decide +kernel
theorem d_X4_dealAnew_36 : decode cX4_dealAnew 36 = .ok (.iload_n 1, 1) := by decide +kernel
theorem d_X4_dealAnew_37 : decode cX4_dealAnew 37 = .ok (.iconst 1, 1) := by decide +kernel
theorem d_X4_dealAnew_38 : decode cX4_dealAnew 38 = .ok (.isub, 1) := by decide +kernel
theorem d_X4_dealAnew_39 : decode cX4_dealAnew 39 = .ok (.istore_n 3, 1) := by decide +kernel
theorem d_X4_dealAnew_40 : decode cX4_dealAnew 40 = .ok (.iload_n 3, 1) := by decide +kernel
theorem d_X4_dealAnew_41 : decode cX4_dealAnew 41 = .ok (.iload_n 2, 1) := by decide +kernel
theorem d_X4_dealAnew_42 : decode cX4_dealAnew 42 = .ok (.if_icmp .le 24, 3) := by decide +kernel
theorem d_X4_dealAnew_45 : decode cX4_dealAnew 45 = .ok (.aload_n 0, 1) := by decide +kernel
theorem d_X4_dealAnew_46 : decode cX4_dealAnew 46 = .ok (.getfield 18, 3) := by decide +kernel
theorem d_X4_dealAnew_49 : decode cX4_dealAnew 49 = .ok (.iload_n 3, 1) := by decide +kernel
theorem d_X4_dealAnew_50 : decode cX4_dealAnew 50 = .ok (.iaload, 1) := by decide +kernel
theorem d_X4_dealAnew_51 : decode cX4_dealAnew 51 = .ok (.aload_n 0, 1) := by decide +kernel
theorem d_X4_dealAnew_52 : decode cX4_dealAnew 52 = .ok (.getfield 18, 3) := by decide +kernel
theorem d_X4_dealAnew_55 : decode cX4_dealAnew 55 = .ok (.iload_n 2, 1) := by decide +kernel
theorem d_X4_dealAnew_56 : decode cX4_dealAnew 56 = .ok (.iaload, 1) := by decide +kernel
theorem d_X4_dealAnew_57 : decode cX4_dealAnew 57 = .ok (.if_icmp .ge 9, 3) := by decide +kernel
theorem d_X4_dealAnew_60 : decode cX4_dealAnew 60 = .ok (.iinc 3 (-1), 3) := by decide +kernel
theorem d_X4_dealAnew_63 : decode cX4_dealAnew 63 = .ok (.goto (-23), 3) := by decide +kernel
theorem d_X4_dealAnew_66 : decode cX4_dealAnew 66 = .ok (.aload_n 0, 1) := by decide +kernel
theorem d_X4_dealAnew_67 : decode cX4_dealAnew 67 = .ok (.iload_n 2, 1) := by decide +kernel
theorem d_X4_dealAnew_68 : decode cX4_dealAnew 68 = .ok (.iload_n 3, 1) := by decide +kernel
theorem d_X4_dealAnew_69 : decode cX4_dealAnew 69 = .ok (.invokevirtual 79, 3) := by decide +kernel
theorem d_X4_dealAnew_72 : decode cX4_dealAnew 72 = .ok (.iload_n 2, 1) := by decide +kernel
theorem d_X4_dealAnew_73 : decode cX4_dealAnew 73 = .ok (.iconst 1, 1) := by decide +kernel
theorem d_X4_dealAnew_74 : decode cX4_dealAnew 74 = .ok (.iadd, 1) := by decide +kernel
theorem d_X4_dealAnew_75 : decode cX4_dealAnew 75 = .ok (.istore 4, 2) := by decide +kernel
theorem d_X4_dealAnew_77 : decode cX4_dealAnew 77 = .ok (.iload_n 1, 1) := by decide +kernel
theorem d_X4_dealAnew_78 : decode cX4_dealAnew 78 = .ok (.iconst 1, 1) := by decide +kernel
theorem d_X4_dealAnew_79 : decode cX4_dealAnew 79 = .ok (.isub, 1) := by decide +kernel
theorem d_X4_dealAnew_80 : decode cX4_dealAnew 80 = .ok (.istore 5, 2) := by decide +kernel
theorem d_X4_dealAnew_82 : decode cX4_dealAnew 82 = .ok (.iload 4, 2) := by decide +kernel
theorem d_X4_dealAnew_84 : decode cX4_dealAnew 84 = .ok (.iload 5, 2) := by decide +kernel
theorem d_X4_dealAnew_86 : decode cX4_dealAnew 86 = .ok (.if_icmp .ge 20, 3) := by decide +kernel
theorem d_X4_dealAnew_89 : decode cX4_dealAnew 89 = .ok (.aload_n 0, 1) := by decide +kernel
theorem d_X4_dealAnew_90 : decode cX4_dealAnew 90 = .ok (.iload 4, 2) := by decide +kernel
theorem d_X4_dealAnew_92 : decode cX4_dealAnew 92 = .ok (.iload 5, 2) := by decide +kernel
theorem d_X4_dealAnew_94 : decode cX4_dealAnew 94 = .ok (.invokevirtual 79, 3) := by decide +kernel
theorem d_X4_dealAnew_97 : decode cX4_dealAnew 97 = .ok (.iinc 4 1, 3) := by decide +kernel
theorem d_X4_dealAnew_100 : decode cX4_dealAnew 100 = .ok (.iinc 5 (-1), 3) := by decide +kernel
theorem d_X4_dealAnew_103 : decode cX4_dealAnew 103 = .ok (.goto (-21), 3) := by decide +kernel
theorem d_X4_dealAnew_106 : decode cX4_dealAnew 106 = .ok (.return_, 1) := by decide +kernel
set_option maxHeartbeats 4000000 in
set_option maxRecDepth 100000 in
theorem t_X4_dealAnew_82 {X : XT_x} {G : GT_g} {z : Mem_m} (C : Cx_ (K_X4_dealAnew) X G) (hR : Rx_ X G none) (x0 : Nat) : ∀ (n : Nat) (M : Mem_m) (x4 : Int) (x5 : Int) (o_x4 : ok_i x4) (o_x5 : ok_i x5), f_X4_dealAnew_82 G.2.2.2 x0 n M x4 x5 = some z → V_ (K_X4_dealAnew) X G (Fq_ X G (Qv_ G z)) M 82 [(0, .ref (G.1 + x0)), (4, iv_i x4), (5, iv_i x5)] [] := by
  intro n
  induction n with
  | zero => intro M x4 x5 o_x4 o_x5 h; exact absurd h (by simp [f_X4_dealAnew_82])
  | succ n ih =>
    intro M x4 x5 o_x4 o_x5 h
    unfold f_X4_dealAnew_82 at h
    refine V_iload (j := 1) C d_X4_dealAnew_82 rfl ?_
    refine V_iload (j := 2) C d_X4_dealAnew_84 rfl ?_
    refine V_icmp_ge (tgt := 106) C d_X4_dealAnew_86 (by decide) o_x4 o_x5 h (fun h => ?_) (fun h => ?_)
    · skip
      refine V_aload_n (j := 0) C d_X4_dealAnew_89 rfl rfl ?_
      refine V_iload (j := 1) C d_X4_dealAnew_90 rfl ?_
      refine V_iload (j := 2) C d_X4_dealAnew_92 rfl ?_
      refine V_callVwv (K' := K_X4_swap) (a := x0) (ci := 4) (av := [iv_i x4, iv_i x5]) (rest := []) yi_X4_swap (by decide) rfl C (yk_X4_swap) l1_X4_79 (by decide) d_X4_dealAnew_94 (fun v hv => ct_X4_swap x0 x4 x5 o_x4 o_x5 hv) rfl rfl (Nat.le_of_ble_eq_true rfl) h (fun M1 h => ?_)
      refine V_iinc (j := 1) (lv' := [(4, iv_i (wr_i (x4 + 1))), (0, .ref (G.1 + x0)), (5, iv_i x5)]) C d_X4_dealAnew_97 rfl (by decide) rfl ?_
      refine V_iinc (j := 2) (lv' := [(5, iv_i (wr_i (x5 + (-1)))), (4, iv_i (wr_i (x4 + 1))), (0, .ref (G.1 + x0))]) C d_X4_dealAnew_100 rfl (by decide) rfl ?_
      refine V_goto (tgt := 82) C d_X4_dealAnew_103 (by decide) ?_
      refine V_lv [2, 1, 0] rfl (ih M1 (wr_i (x4 + 1)) (wr_i (x5 + (-1))) (ok_wr _) (ok_wr _) h)
    · skip
      exact V_vret C hR d_X4_dealAnew_106 (Option.some.inj h)
set_option maxHeartbeats 4000000 in
set_option maxRecDepth 100000 in
theorem t_X4_dealAnew_66 {X : XT_x} {G : GT_g} {z : Mem_m} (C : Cx_ (K_X4_dealAnew) X G) (hR : Rx_ X G none) (M : Mem_m) (x0 : Nat) (x1 : Int) (x2 : Int) (x3 : Int) (o_x1 : ok_i x1) (o_x2 : ok_i x2) (o_x3 : ok_i x3) (h : f_X4_dealAnew_66 G.2.2.2 M x0 x1 x2 x3 = some z) : V_ (K_X4_dealAnew) X G (Fq_ X G (Qv_ G z)) M 66 [(0, .ref (G.1 + x0)), (1, iv_i x1), (2, iv_i x2), (3, iv_i x3)] [] := by
  unfold f_X4_dealAnew_66 at h
  refine V_aload_n (j := 0) C d_X4_dealAnew_66 rfl rfl ?_
  refine V_iload_n (j := 2) C d_X4_dealAnew_67 rfl rfl ?_
  refine V_iload_n (j := 3) C d_X4_dealAnew_68 rfl rfl ?_
  refine V_callVwv (K' := K_X4_swap) (a := x0) (ci := 4) (av := [iv_i x2, iv_i x3]) (rest := []) yi_X4_swap (by decide) rfl C (yk_X4_swap) l1_X4_79 (by decide) d_X4_dealAnew_69 (fun v hv => ct_X4_swap x0 x2 x3 o_x2 o_x3 hv) rfl rfl (Nat.le_of_ble_eq_true rfl) h (fun M1 h => ?_)
  refine V_iload_n (j := 2) C d_X4_dealAnew_72 rfl rfl ?_
  refine V_iconst C d_X4_dealAnew_73 ?_
  refine V_iadd C d_X4_dealAnew_74 ?_
  refine V_istore (lv' := [(4, iv_i (wr_i (x2 + 1))), (0, .ref (G.1 + x0)), (1, iv_i x1), (2, iv_i x2), (3, iv_i x3)]) C d_X4_dealAnew_75 (by decide) rfl ?_
  refine V_iload_n (j := 2) C d_X4_dealAnew_77 rfl rfl ?_
  refine V_iconst C d_X4_dealAnew_78 ?_
  refine V_isub C d_X4_dealAnew_79 ?_
  refine V_istore (lv' := [(5, iv_i (wr_i (x1 - 1))), (4, iv_i (wr_i (x2 + 1))), (0, .ref (G.1 + x0)), (1, iv_i x1), (2, iv_i x2), (3, iv_i x3)]) C d_X4_dealAnew_80 (by decide) rfl ?_
  refine V_lv [2, 1, 0] rfl (t_X4_dealAnew_82 C hR x0 FU_ M1 (wr_i (x2 + 1)) (wr_i (x1 - 1)) (ok_wr _) (ok_wr _) h)
set_option maxHeartbeats 4000000 in
set_option maxRecDepth 100000 in
theorem t_X4_dealAnew_40 {X : XT_x} {G : GT_g} {z : Mem_m} (C : Cx_ (K_X4_dealAnew) X G) (hR : Rx_ X G none) (M : Mem_m) (x0 : Nat) (x1 : Int) (x2 : Int) (o_x1 : ok_i x1) (o_x2 : ok_i x2) : ∀ (n : Nat) (x3 : Int) (o_x3 : ok_i x3), f_X4_dealAnew_40 G.2.2.2 M x0 x1 x2 n x3 = some z → V_ (K_X4_dealAnew) X G (Fq_ X G (Qv_ G z)) M 40 [(0, .ref (G.1 + x0)), (1, iv_i x1), (2, iv_i x2), (3, iv_i x3)] [] := by
  intro n
  induction n with
  | zero => intro x3 o_x3 h; exact absurd h (by simp [f_X4_dealAnew_40])
  | succ n ih =>
    intro x3 o_x3 h
    unfold f_X4_dealAnew_40 at h
    refine V_iload_n (j := 3) C d_X4_dealAnew_40 rfl rfl ?_
    refine V_iload_n (j := 2) C d_X4_dealAnew_41 rfl rfl ?_
    refine V_icmp_le (tgt := 66) C d_X4_dealAnew_42 (by decide) o_x3 o_x2 h (fun h => ?_) (fun h => ?_)
    · skip
      refine V_lv [0, 1, 2, 3] rfl (t_X4_dealAnew_66 C hR M x0 x1 x2 x3 o_x1 o_x2 o_x3 h)
    · skip
      refine V_aload_n (j := 0) C d_X4_dealAnew_45 rfl rfl ?_
      refine V_getR C ck_4 fw_X4_18 d_X4_dealAnew_46 h (fun v1 h => ?_)
      refine V_iload_n (j := 3) C d_X4_dealAnew_49 rfl rfl ?_
      refine V_iald C d_X4_dealAnew_50 o_x3 h (fun v2 o2 h => ?_)
      refine V_aload_n (j := 0) C d_X4_dealAnew_51 rfl rfl ?_
      refine V_getR C ck_4 fw_X4_18 d_X4_dealAnew_52 h (fun v3 h => ?_)
      refine V_iload_n (j := 2) C d_X4_dealAnew_55 rfl rfl ?_
      refine V_iald C d_X4_dealAnew_56 o_x2 h (fun v4 o4 h => ?_)
      refine V_icmp_ge (tgt := 66) C d_X4_dealAnew_57 (by decide) o2 o4 h (fun h => ?_) (fun h => ?_)
      · skip
        refine V_iinc (j := 3) (lv' := [(3, iv_i (wr_i (x3 + (-1)))), (0, .ref (G.1 + x0)), (1, iv_i x1), (2, iv_i x2)]) C d_X4_dealAnew_60 rfl (by decide) rfl ?_
        refine V_goto (tgt := 40) C d_X4_dealAnew_63 (by decide) ?_
        refine V_lv [1, 2, 3, 0] rfl (ih (wr_i (x3 + (-1))) (ok_wr _) h)
      · skip
        refine V_lv [0, 1, 2, 3] rfl (t_X4_dealAnew_66 C hR M x0 x1 x2 x3 o_x1 o_x2 o_x3 h)
set_option maxHeartbeats 4000000 in
set_option maxRecDepth 100000 in
theorem t_X4_dealAnew_31 {X : XT_x} {G : GT_g} {z : Mem_m} (C : Cx_ (K_X4_dealAnew) X G) (hR : Rx_ X G none) (M : Mem_m) (x0 : Nat) (x1 : Int) (x2 : Int) (o_x1 : ok_i x1) (o_x2 : ok_i x2) (h : f_X4_dealAnew_31 G.2.2.2 M x0 x1 x2 = some z) : V_ (K_X4_dealAnew) X G (Fq_ X G (Qv_ G z)) M 31 [(0, .ref (G.1 + x0)), (1, iv_i x1), (2, iv_i x2)] [] := by
  unfold f_X4_dealAnew_31 at h
  refine V_iload_n (j := 2) C d_X4_dealAnew_31 rfl rfl ?_
  refine V_if_ge (tgt := 36) C d_X4_dealAnew_32 (by decide) o_x2 h (fun h => ?_) (fun h => ?_)
  · skip
    exact V_vret C hR d_X4_dealAnew_35 (Option.some.inj h)
  · skip
    refine V_iload_n (j := 1) C d_X4_dealAnew_36 rfl rfl ?_
    refine V_iconst C d_X4_dealAnew_37 ?_
    refine V_isub C d_X4_dealAnew_38 ?_
    refine V_istore_n (lv' := [(3, iv_i (wr_i (x1 - 1))), (0, .ref (G.1 + x0)), (1, iv_i x1), (2, iv_i x2)]) C d_X4_dealAnew_39 rfl (by decide) rfl ?_
    refine V_lv [1, 2, 3, 0] rfl (t_X4_dealAnew_40 C hR M x0 x1 x2 o_x1 o_x2 FU_ (wr_i (x1 - 1)) (ok_wr _) h)
set_option maxHeartbeats 4000000 in
set_option maxRecDepth 100000 in
theorem t_X4_dealAnew_4 {X : XT_x} {G : GT_g} {z : Mem_m} (C : Cx_ (K_X4_dealAnew) X G) (hR : Rx_ X G none) (M : Mem_m) (x0 : Nat) (x1 : Int) (o_x1 : ok_i x1) : ∀ (n : Nat) (x2 : Int) (o_x2 : ok_i x2), f_X4_dealAnew_4 G.2.2.2 M x0 x1 n x2 = some z → V_ (K_X4_dealAnew) X G (Fq_ X G (Qv_ G z)) M 4 [(0, .ref (G.1 + x0)), (1, iv_i x1), (2, iv_i x2)] [] := by
  intro n
  induction n with
  | zero => intro x2 o_x2 h; exact absurd h (by simp [f_X4_dealAnew_4])
  | succ n ih =>
    intro x2 o_x2 h
    unfold f_X4_dealAnew_4 at h
    refine V_iload_n (j := 2) C d_X4_dealAnew_4 rfl rfl ?_
    refine V_if_lt (tgt := 31) C d_X4_dealAnew_5 (by decide) o_x2 h (fun h => ?_) (fun h => ?_)
    · skip
      refine V_lv [0, 1, 2] rfl (t_X4_dealAnew_31 C hR M x0 x1 x2 o_x1 o_x2 h)
    · skip
      refine V_aload_n (j := 0) C d_X4_dealAnew_8 rfl rfl ?_
      refine V_getR C ck_4 fw_X4_18 d_X4_dealAnew_9 h (fun v1 h => ?_)
      refine V_iload_n (j := 2) C d_X4_dealAnew_12 rfl rfl ?_
      refine V_iald C d_X4_dealAnew_13 o_x2 h (fun v2 o2 h => ?_)
      refine V_aload_n (j := 0) C d_X4_dealAnew_14 rfl rfl ?_
      refine V_getR C ck_4 fw_X4_18 d_X4_dealAnew_15 h (fun v3 h => ?_)
      refine V_iload_n (j := 2) C d_X4_dealAnew_18 rfl rfl ?_
      refine V_iconst C d_X4_dealAnew_19 ?_
      refine V_iadd C d_X4_dealAnew_20 ?_
      refine V_iald C d_X4_dealAnew_21 (ok_wr _) h (fun v4 o4 h => ?_)
      refine V_icmp_le (tgt := 31) C d_X4_dealAnew_22 (by decide) o2 o4 h (fun h => ?_) (fun h => ?_)
      · skip
        refine V_lv [0, 1, 2] rfl (t_X4_dealAnew_31 C hR M x0 x1 x2 o_x1 o_x2 h)
      · skip
        refine V_iinc (j := 2) (lv' := [(2, iv_i (wr_i (x2 + (-1)))), (0, .ref (G.1 + x0)), (1, iv_i x1)]) C d_X4_dealAnew_25 rfl (by decide) rfl ?_
        refine V_goto (tgt := 4) C d_X4_dealAnew_28 (by decide) ?_
        refine V_lv [1, 2, 0] rfl (ih (wr_i (x2 + (-1))) (ok_wr _) h)
set_option maxHeartbeats 4000000 in
set_option maxRecDepth 100000 in
theorem t_X4_dealAnew {X : XT_x} {G : GT_g} {M : Mem_m} {z : Mem_m} (C : Cx_ (K_X4_dealAnew) X G) (hR : Rx_ X G none) (x0 : Nat) (x1 : Int) (o_x1 : ok_i x1) (h : f_X4_dealAnew G.2.2.2 M x0 x1 = some z) : V_ (K_X4_dealAnew) X G (Fq_ X G (Qv_ G z)) M 0 [(0, .ref (G.1 + x0)), (1, iv_i x1)] [] := by
  unfold f_X4_dealAnew at h
  refine V_iload_n (j := 1) C d_X4_dealAnew_0 rfl rfl ?_
  refine V_iconst C d_X4_dealAnew_1 ?_
  refine V_isub C d_X4_dealAnew_2 ?_
  refine V_istore_n (lv' := [(2, iv_i (wr_i (x1 - 2))), (0, .ref (G.1 + x0)), (1, iv_i x1)]) C d_X4_dealAnew_3 rfl (by decide) rfl ?_
  refine V_lv [1, 2, 0] rfl (t_X4_dealAnew_4 C hR M x0 x1 o_x1 FU_ (wr_i (x1 - 2)) (ok_wr _) h)
set_option maxHeartbeats 4000000 in
set_option maxRecDepth 100000 in
theorem ct_X4_dealAnew {l : Launch} {G : GT_g} {M : Mem_m} (x0 : Nat) (x1 : Int) (o_x1 : ok_i x1) {z : Mem_m} (h : f_X4_dealAnew G.2.2.2 M x0 x1 = some z) : MV_ l yX4_dealAnew K_X4_dealAnew none G M [.ref (G.1 + x0), iv_i x1] z :=
  met_of (by decide +kernel) rfl (Nat.le_of_ble_eq_true rfl) (fun X hl C hR => by subst hl; exact t_X4_dealAnew C hR x0 x1 o_x1 h)
theorem d_X4_countOdds_0 : decode cX4_countOdds 0 = .ok (.aload_n 0, 1) := by decide +kernel
theorem d_X4_countOdds_1 : decode cX4_countOdds 1 = .ok (.aload_n 1, 1) := by decide +kernel
theorem d_X4_countOdds_2 : decode cX4_countOdds 2 = .ok (.invokevirtual 73, 3) := by decide +kernel
theorem d_X4_countOdds_5 : decode cX4_countOdds 5 = .ok (.aload_n 0, 1) := by decide +kernel
theorem d_X4_countOdds_6 : decode cX4_countOdds 6 = .ok (.getfield 62, 3) := by decide +kernel
theorem d_X4_countOdds_9 : decode cX4_countOdds 9 = .ok (.istore_n 3, 1) := by decide +kernel
theorem d_X4_countOdds_10 : decode cX4_countOdds 10 = .ok (.iconst 0, 1) := by decide +kernel
theorem d_X4_countOdds_11 : decode cX4_countOdds 11 = .ok (.istore 4, 2) := by decide +kernel
theorem d_X4_countOdds_13 : decode cX4_countOdds 13 = .ok (.iconst 0, 1) := by decide +kernel
theorem d_X4_countOdds_14 : decode cX4_countOdds 14 = .ok (.istore 5, 2) := by decide +kernel
theorem d_X4_countOdds_16 : decode cX4_countOdds 16 = .ok (.iload 5, 2) := by decide +kernel
theorem d_X4_countOdds_18 : decode cX4_countOdds 18 = .ok (.iload_n 2, 1) := by decide +kernel
theorem d_X4_countOdds_19 : decode cX4_countOdds 19 = .ok (.if_icmp .ge 33, 3) := by decide +kernel
theorem d_X4_countOdds_22 : decode cX4_countOdds 22 = .ok (.aload_n 0, 1) := by decide +kernel
theorem d_X4_countOdds_23 : decode cX4_countOdds 23 = .ok (.aload_n 1, 1) := by decide +kernel
theorem d_X4_countOdds_24 : decode cX4_countOdds 24 = .ok (.invokevirtual 27, 3) := by decide +kernel
theorem d_X4_countOdds_27 : decode cX4_countOdds 27 = .ok (.aload_n 0, 1) := by decide +kernel
theorem d_X4_countOdds_28 : decode cX4_countOdds 28 = .ok (.getfield 62, 3) := by decide +kernel
theorem d_X4_countOdds_31 : decode cX4_countOdds 31 = .ok (.iload_n 3, 1) := by decide +kernel
theorem d_X4_countOdds_32 : decode cX4_countOdds 32 = .ok (.if_icmp .lt 6, 3) := by decide +kernel
theorem d_X4_countOdds_35 : decode cX4_countOdds 35 = .ok (.iinc 4 1, 3) := by decide +kernel
theorem d_X4_countOdds_38 : decode cX4_countOdds 38 = .ok (.aload_n 0, 1) := by decide +kernel
theorem d_X4_countOdds_39 : decode cX4_countOdds 39 = .ok (.aload_n 1, 1) := by decide +kernel
theorem d_X4_countOdds_40 : decode cX4_countOdds 40 = .ok (.getfield 21, 3) := by decide +kernel
theorem d_X4_countOdds_43 : decode cX4_countOdds 43 = .ok (.invokevirtual 76, 3) := by decide +kernel
theorem d_X4_countOdds_46 : decode cX4_countOdds 46 = .ok (.iinc 5 1, 3) := by decide +kernel
theorem d_X4_countOdds_49 : decode cX4_countOdds 49 = .ok (.goto (-33), 3) := by decide +kernel
theorem d_X4_countOdds_52 : decode cX4_countOdds 52 = .ok (.iload 4, 2) := by decide +kernel
theorem d_X4_countOdds_54 : decode cX4_countOdds 54 = .ok (.ireturn, 1) := by decide +kernel
set_option maxHeartbeats 4000000 in
set_option maxRecDepth 100000 in
theorem t_X4_countOdds_38 {X : XT_x} {G : GT_g} {z : (Mem_m × Int)} (C : Cx_ (K_X4_countOdds) X G) (hR : Rx_ X G (some .int)) (M : Mem_m) (x0 : Nat) (x1 : Nat) (x2 : Int) (x3 : Int) (x4 : Int) (x5 : Int) (o_x2 : ok_i x2) (o_x3 : ok_i x3) (o_x4 : ok_i x4) (o_x5 : ok_i x5) (k_16 : Mem_m → Int → Int → Option (Mem_m × Int)) (hk_16 : ∀ (M : Mem_m) (x4 : Int) (x5 : Int) (o_x4 : ok_i x4) (o_x5 : ok_i x5), k_16 M x4 x5 = some z → V_ (K_X4_countOdds) X G (Fq_ X G (Qi_ G z.1 z.2)) M 16 [(0, .ref (G.1 + x0)), (1, .ref (G.1 + x1)), (2, iv_i x2), (3, iv_i x3), (4, iv_i x4), (5, iv_i x5)] []) (h : f_X4_countOdds_38 G.2.2.2 k_16 M x0 x1 x2 x3 x4 x5 = some z) : V_ (K_X4_countOdds) X G (Fq_ X G (Qi_ G z.1 z.2)) M 38 [(0, .ref (G.1 + x0)), (1, .ref (G.1 + x1)), (2, iv_i x2), (3, iv_i x3), (4, iv_i x4), (5, iv_i x5)] [] := by
  unfold f_X4_countOdds_38 at h
  refine V_aload_n (j := 0) C d_X4_countOdds_38 rfl rfl ?_
  refine V_aload_n (j := 1) C d_X4_countOdds_39 rfl rfl ?_
  refine V_getI C ck_0 fw_X4_21 d_X4_countOdds_40 h (fun v1 o1 h => ?_)
  refine V_callVwv (K' := K_X4_dealAnew) (a := x0) (ci := 4) (av := [iv_i v1]) (rest := []) yi_X4_dealAnew (by decide) rfl C (yk_X4_dealAnew) l1_X4_76 (by decide) d_X4_countOdds_43 (fun v hv => ct_X4_dealAnew x0 v1 o1 hv) rfl rfl (Nat.le_of_ble_eq_true rfl) h (fun M2 h => ?_)
  refine V_iinc (j := 5) (lv' := [(5, iv_i (wr_i (x5 + 1))), (0, .ref (G.1 + x0)), (1, .ref (G.1 + x1)), (2, iv_i x2), (3, iv_i x3), (4, iv_i x4)]) C d_X4_countOdds_46 rfl (by decide) rfl ?_
  refine V_goto (tgt := 16) C d_X4_countOdds_49 (by decide) ?_
  refine V_lv [1, 2, 3, 4, 5, 0] rfl (hk_16 M2 x4 (wr_i (x5 + 1)) o_x4 (ok_wr _) h)
set_option maxHeartbeats 4000000 in
set_option maxRecDepth 100000 in
theorem t_X4_countOdds_16 {X : XT_x} {G : GT_g} {z : (Mem_m × Int)} (C : Cx_ (K_X4_countOdds) X G) (hR : Rx_ X G (some .int)) (x0 : Nat) (x1 : Nat) (x2 : Int) (x3 : Int) (o_x2 : ok_i x2) (o_x3 : ok_i x3) : ∀ (n : Nat) (M : Mem_m) (x4 : Int) (x5 : Int) (o_x4 : ok_i x4) (o_x5 : ok_i x5), f_X4_countOdds_16 G.2.2.2 x0 x1 x2 x3 n M x4 x5 = some z → V_ (K_X4_countOdds) X G (Fq_ X G (Qi_ G z.1 z.2)) M 16 [(0, .ref (G.1 + x0)), (1, .ref (G.1 + x1)), (2, iv_i x2), (3, iv_i x3), (4, iv_i x4), (5, iv_i x5)] [] := by
  intro n
  induction n with
  | zero => intro M x4 x5 o_x4 o_x5 h; exact absurd h (by simp [f_X4_countOdds_16])
  | succ n ih =>
    intro M x4 x5 o_x4 o_x5 h
    unfold f_X4_countOdds_16 at h
    refine V_iload (j := 5) C d_X4_countOdds_16 rfl ?_
    refine V_iload_n (j := 2) C d_X4_countOdds_18 rfl rfl ?_
    refine V_icmp_ge (tgt := 52) C d_X4_countOdds_19 (by decide) o_x5 o_x2 h (fun h => ?_) (fun h => ?_)
    · skip
      refine V_aload_n (j := 0) C d_X4_countOdds_22 rfl rfl ?_
      refine V_aload_n (j := 1) C d_X4_countOdds_23 rfl rfl ?_
      refine V_callVwv (K' := K_X4_make) (a := x0) (ci := 4) (av := [.ref (G.1 + x1)]) (rest := []) yi_X4_make (by decide) rfl C (yk_X4_make) l1_X4_27 (by decide) d_X4_countOdds_24 (fun v hv => ct_X4_make x0 x1 hv) rfl rfl (Nat.le_of_ble_eq_true rfl) h (fun M1 h => ?_)
      refine V_aload_n (j := 0) C d_X4_countOdds_27 rfl rfl ?_
      refine V_getI C ck_4 fw_X4_62 d_X4_countOdds_28 h (fun v2 o2 h => ?_)
      refine V_iload_n (j := 3) C d_X4_countOdds_31 rfl rfl ?_
      refine V_icmp_lt (tgt := 38) C d_X4_countOdds_32 (by decide) o2 o_x3 h (fun h => ?_) (fun h => ?_)
      · skip
        refine V_lv [0, 1, 2, 3, 4, 5] rfl (t_X4_countOdds_38 C hR M1 x0 x1 x2 x3 x4 x5 o_x2 o_x3 o_x4 o_x5 (fun M x4 x5 => f_X4_countOdds_16 G.2.2.2 x0 x1 x2 x3 n M x4 x5) (fun M x4 x5 o_x4 o_x5 h9 => ih M x4 x5 o_x4 o_x5 h9) h)
      · skip
        refine V_iinc (j := 4) (lv' := [(4, iv_i (wr_i (x4 + 1))), (0, .ref (G.1 + x0)), (1, .ref (G.1 + x1)), (2, iv_i x2), (3, iv_i x3), (5, iv_i x5)]) C d_X4_countOdds_35 rfl (by decide) rfl ?_
        refine V_lv [1, 2, 3, 4, 0, 5] rfl (t_X4_countOdds_38 C hR M1 x0 x1 x2 x3 (wr_i (x4 + 1)) x5 o_x2 o_x3 (ok_wr _) o_x5 (fun M x4 x5 => f_X4_countOdds_16 G.2.2.2 x0 x1 x2 x3 n M x4 x5) (fun M x4 x5 o_x4 o_x5 h9 => ih M x4 x5 o_x4 o_x5 h9) h)
    · skip
      refine V_iload (j := 4) C d_X4_countOdds_52 rfl ?_
      exact V_iret_w C hR d_X4_countOdds_54 o_x4 h
set_option maxHeartbeats 4000000 in
set_option maxRecDepth 100000 in
theorem t_X4_countOdds {X : XT_x} {G : GT_g} {M : Mem_m} {z : (Mem_m × Int)} (C : Cx_ (K_X4_countOdds) X G) (hR : Rx_ X G (some .int)) (x0 : Nat) (x1 : Nat) (x2 : Int) (o_x2 : ok_i x2) (h : f_X4_countOdds G.2.2.2 M x0 x1 x2 = some z) : V_ (K_X4_countOdds) X G (Fq_ X G (Qi_ G z.1 z.2)) M 0 [(0, .ref (G.1 + x0)), (1, .ref (G.1 + x1)), (2, iv_i x2)] [] := by
  unfold f_X4_countOdds at h
  refine V_aload_n (j := 0) C d_X4_countOdds_0 rfl rfl ?_
  refine V_aload_n (j := 1) C d_X4_countOdds_1 rfl rfl ?_
  refine V_callVwv (K' := K_X4_makeAsTold) (a := x0) (ci := 4) (av := [.ref (G.1 + x1)]) (rest := []) yi_X4_makeAsTold (by decide) rfl C (yk_X4_makeAsTold) l1_X4_73 (by decide) d_X4_countOdds_2 (fun v hv => ct_X4_makeAsTold x0 x1 hv) rfl rfl (Nat.le_of_ble_eq_true rfl) h (fun M1 h => ?_)
  refine V_aload_n (j := 0) C d_X4_countOdds_5 rfl rfl ?_
  refine V_getI C ck_4 fw_X4_62 d_X4_countOdds_6 h (fun v2 o2 h => ?_)
  refine V_istore_n (lv' := [(3, iv_i v2), (0, .ref (G.1 + x0)), (1, .ref (G.1 + x1)), (2, iv_i x2)]) C d_X4_countOdds_9 rfl (by decide) rfl ?_
  refine V_iconst C d_X4_countOdds_10 ?_
  refine V_istore (lv' := [(4, iv_i 0), (3, iv_i v2), (0, .ref (G.1 + x0)), (1, .ref (G.1 + x1)), (2, iv_i x2)]) C d_X4_countOdds_11 (by decide) rfl ?_
  refine V_iconst C d_X4_countOdds_13 ?_
  refine V_istore (lv' := [(5, iv_i 0), (4, iv_i 0), (3, iv_i v2), (0, .ref (G.1 + x0)), (1, .ref (G.1 + x1)), (2, iv_i x2)]) C d_X4_countOdds_14 (by decide) rfl ?_
  refine V_lv [3, 4, 5, 2, 1, 0] rfl (t_X4_countOdds_16 C hR x0 x1 x2 v2 o_x2 o2 FU_ M1 0 0 (okc rfl) (okc rfl) h)
set_option maxHeartbeats 4000000 in
set_option maxRecDepth 100000 in
theorem ct_X4_countOdds {l : Launch} {G : GT_g} {M : Mem_m} (x0 : Nat) (x1 : Nat) (x2 : Int) (o_x2 : ok_i x2) {z : (Mem_m × Int)} (h : f_X4_countOdds G.2.2.2 M x0 x1 x2 = some z) : MI_ l yX4_countOdds K_X4_countOdds (some .int) G M [.ref (G.1 + x0), .ref (G.1 + x1), iv_i x2] z.1 z.2 :=
  met_of (by decide +kernel) rfl (Nat.le_of_ble_eq_true rfl) (fun X hl C hR => by subst hl; exact t_X4_countOdds C hR x0 x1 x2 o_x2 h)
theorem d_X10_clear_0 : decode cX10_clear 0 = .ok (.aload_n 0, 1) := by decide +kernel
theorem d_X10_clear_1 : decode cX10_clear 1 = .ok (.iconst 0, 1) := by decide +kernel
theorem d_X10_clear_2 : decode cX10_clear 2 = .ok (.putfield 15, 3) := by decide +kernel
theorem d_X10_clear_5 : decode cX10_clear 5 = .ok (.return_, 1) := by decide +kernel
set_option maxHeartbeats 4000000 in
set_option maxRecDepth 100000 in
theorem t_X10_clear {X : XT_x} {G : GT_g} {M : Mem_m} {z : Mem_m} (C : Cx_ (K_X10_clear) X G) (hR : Rx_ X G none) (x0 : Nat)  (h : f_X10_clear G.2.2.2 M x0 = some z) : V_ (K_X10_clear) X G (Fq_ X G (Qv_ G z)) M 0 [(0, .ref (G.1 + x0))] [] := by
  unfold f_X10_clear at h
  refine V_aload_n (j := 0) C d_X10_clear_0 rfl rfl ?_
  refine V_iconst C d_X10_clear_1 ?_
  refine V_putI C ck_10 fw_X10_15 fp_10_1 d_X10_clear_2 (okc rfl) h (fun M1 h => ?_)
  exact V_vret C hR d_X10_clear_5 (Option.some.inj h)
set_option maxHeartbeats 4000000 in
set_option maxRecDepth 100000 in
theorem ct_X10_clear {l : Launch} {G : GT_g} {M : Mem_m} (x0 : Nat)  {z : Mem_m} (h : f_X10_clear G.2.2.2 M x0 = some z) : MV_ l yX10_clear K_X10_clear none G M [.ref (G.1 + x0)] z :=
  met_of (by decide +kernel) rfl (Nat.le_of_ble_eq_true rfl) (fun X hl C hR => by subst hl; exact t_X10_clear C hR x0  h)
theorem d_X10_add_0 : decode cX10_add 0 = .ok (.aload_n 0, 1) := by decide +kernel
theorem d_X10_add_1 : decode cX10_add 1 = .ok (.getfield 15, 3) := by decide +kernel
theorem d_X10_add_4 : decode cX10_add 4 = .ok (.bipush 8, 2) := by decide +kernel
theorem d_X10_add_6 : decode cX10_add 6 = .ok (.if_icmp .ge 23, 3) := by decide +kernel
theorem d_X10_add_9 : decode cX10_add 9 = .ok (.aload_n 0, 1) := by decide +kernel
theorem d_X10_add_10 : decode cX10_add 10 = .ok (.getfield 9, 3) := by decide +kernel
theorem d_X10_add_13 : decode cX10_add 13 = .ok (.aload_n 0, 1) := by decide +kernel
theorem d_X10_add_14 : decode cX10_add 14 = .ok (.getfield 15, 3) := by decide +kernel
theorem d_X10_add_17 : decode cX10_add 17 = .ok (.iload_n 1, 1) := by decide +kernel
theorem d_X10_add_18 : decode cX10_add 18 = .ok (.iastore, 1) := by decide +kernel
theorem d_X10_add_19 : decode cX10_add 19 = .ok (.aload_n 0, 1) := by decide +kernel
theorem d_X10_add_20 : decode cX10_add 20 = .ok (.dup, 1) := by decide +kernel
theorem d_X10_add_21 : decode cX10_add 21 = .ok (.getfield 15, 3) := by decide +kernel
theorem d_X10_add_24 : decode cX10_add 24 = .ok (.iconst 1, 1) := by decide +kernel
theorem d_X10_add_25 : decode cX10_add 25 = .ok (.iadd, 1) := by decide +kernel
theorem d_X10_add_26 : decode cX10_add 26 = .ok (.putfield 15, 3) := by decide +kernel
theorem d_X10_add_29 : decode cX10_add 29 = .ok (.return_, 1) := by decide +kernel
set_option maxHeartbeats 4000000 in
set_option maxRecDepth 100000 in
theorem t_X10_add {X : XT_x} {G : GT_g} {M : Mem_m} {z : Mem_m} (C : Cx_ (K_X10_add) X G) (hR : Rx_ X G none) (x0 : Nat) (x1 : Int) (o_x1 : ok_i x1) (h : f_X10_add G.2.2.2 M x0 x1 = some z) : V_ (K_X10_add) X G (Fq_ X G (Qv_ G z)) M 0 [(0, .ref (G.1 + x0)), (1, iv_i x1)] [] := by
  unfold f_X10_add at h
  refine V_aload_n (j := 0) C d_X10_add_0 rfl rfl ?_
  refine V_getI C ck_10 fw_X10_15 d_X10_add_1 h (fun v1 o1 h => ?_)
  refine V_bipush (v := 8) C d_X10_add_4 rfl ?_
  refine V_icmp_ge (tgt := 29) C d_X10_add_6 (by decide) o1 (okc rfl) h (fun h => ?_) (fun h => ?_)
  · skip
    refine V_aload_n (j := 0) C d_X10_add_9 rfl rfl ?_
    refine V_getR C ck_10 fw_X10_9 d_X10_add_10 h (fun v2 h => ?_)
    refine V_aload_n (j := 0) C d_X10_add_13 rfl rfl ?_
    refine V_getI C ck_10 fw_X10_15 d_X10_add_14 h (fun v3 o3 h => ?_)
    refine V_iload_n (j := 1) C d_X10_add_17 rfl rfl ?_
    refine V_iast C d_X10_add_18 o3 o_x1 h (fun M4 h => ?_)
    refine V_aload_n (j := 0) C d_X10_add_19 rfl rfl ?_
    refine V_dup C d_X10_add_20 rfl ?_
    refine V_getI C ck_10 fw_X10_15 d_X10_add_21 h (fun v5 o5 h => ?_)
    refine V_iconst C d_X10_add_24 ?_
    refine V_iadd C d_X10_add_25 ?_
    refine V_putI C ck_10 fw_X10_15 fp_10_1 d_X10_add_26 (ok_wr _) h (fun M6 h => ?_)
    exact V_vret C hR d_X10_add_29 (Option.some.inj h)
  · skip
    exact V_vret C hR d_X10_add_29 (Option.some.inj h)
set_option maxHeartbeats 4000000 in
set_option maxRecDepth 100000 in
theorem ct_X10_add {l : Launch} {G : GT_g} {M : Mem_m} (x0 : Nat) (x1 : Int) (o_x1 : ok_i x1) {z : Mem_m} (h : f_X10_add G.2.2.2 M x0 x1 = some z) : MV_ l yX10_add K_X10_add none G M [.ref (G.1 + x0), iv_i x1] z :=
  met_of (by decide +kernel) rfl (Nat.le_of_ble_eq_true rfl) (fun X hl C hR => by subst hl; exact t_X10_add C hR x0 x1 o_x1 h)
theorem d_X10_takeRow_0 : decode cX10_takeRow 0 = .ok (.aload_n 0, 1) := by decide +kernel
theorem d_X10_takeRow_1 : decode cX10_takeRow 1 = .ok (.invokevirtual 19, 3) := by decide +kernel
theorem d_X10_takeRow_4 : decode cX10_takeRow 4 = .ok (.iconst 0, 1) := by decide +kernel
theorem d_X10_takeRow_5 : decode cX10_takeRow 5 = .ok (.istore_n 2, 1) := by decide +kernel
theorem d_X10_takeRow_6 : decode cX10_takeRow 6 = .ok (.iload_n 2, 1) := by decide +kernel
theorem d_X10_takeRow_7 : decode cX10_takeRow 7 = .ok (.aload_n 1, 1) := by decide +kernel
theorem d_X10_takeRow_8 : decode cX10_takeRow 8 = .ok (.getfield 22, 3) := by decide +kernel
theorem d_X10_takeRow_11 : decode cX10_takeRow 11 = .ok (.if_icmp .ge 19, 3) := by decide +kernel
theorem d_X10_takeRow_14 : decode cX10_takeRow 14 = .ok (.aload_n 0, 1) := by decide +kernel
theorem d_X10_takeRow_15 : decode cX10_takeRow 15 = .ok (.aload_n 1, 1) := by decide +kernel
theorem d_X10_takeRow_16 : decode cX10_takeRow 16 = .ok (.getfield 25, 3) := by decide +kernel
theorem d_X10_takeRow_19 : decode cX10_takeRow 19 = .ok (.iload_n 2, 1) := by decide +kernel
theorem d_X10_takeRow_20 : decode cX10_takeRow 20 = .ok (.iaload, 1) := by decide +kernel
theorem d_X10_takeRow_21 : decode cX10_takeRow 21 = .ok (.invokevirtual 28, 3) := by decide +kernel
theorem d_X10_takeRow_24 : decode cX10_takeRow 24 = .ok (.iinc 2 1, 3) := by decide +kernel
theorem d_X10_takeRow_27 : decode cX10_takeRow 27 = .ok (.goto (-21), 3) := by decide +kernel
theorem d_X10_takeRow_30 : decode cX10_takeRow 30 = .ok (.return_, 1) := by decide +kernel
set_option maxHeartbeats 4000000 in
set_option maxRecDepth 100000 in
theorem t_X10_takeRow_6 {X : XT_x} {G : GT_g} {z : Mem_m} (C : Cx_ (K_X10_takeRow) X G) (hR : Rx_ X G none) (x0 : Nat) (x1 : Nat) : ∀ (n : Nat) (M : Mem_m) (x2 : Int) (o_x2 : ok_i x2), f_X10_takeRow_6 G.2.2.2 x0 x1 n M x2 = some z → V_ (K_X10_takeRow) X G (Fq_ X G (Qv_ G z)) M 6 [(0, .ref (G.1 + x0)), (1, .ref (G.1 + x1)), (2, iv_i x2)] [] := by
  intro n
  induction n with
  | zero => intro M x2 o_x2 h; exact absurd h (by simp [f_X10_takeRow_6])
  | succ n ih =>
    intro M x2 o_x2 h
    unfold f_X10_takeRow_6 at h
    refine V_iload_n (j := 2) C d_X10_takeRow_6 rfl rfl ?_
    refine V_aload_n (j := 1) C d_X10_takeRow_7 rfl rfl ?_
    refine V_getI C ck_9 fw_X10_22 d_X10_takeRow_8 h (fun v1 o1 h => ?_)
    refine V_icmp_ge (tgt := 30) C d_X10_takeRow_11 (by decide) o_x2 o1 h (fun h => ?_) (fun h => ?_)
    · skip
      refine V_aload_n (j := 0) C d_X10_takeRow_14 rfl rfl ?_
      refine V_aload_n (j := 1) C d_X10_takeRow_15 rfl rfl ?_
      refine V_getR C ck_9 fw_X10_25 d_X10_takeRow_16 h (fun v2 h => ?_)
      refine V_iload_n (j := 2) C d_X10_takeRow_19 rfl rfl ?_
      refine V_iald C d_X10_takeRow_20 o_x2 h (fun v3 o3 h => ?_)
      refine V_callVwv (K' := K_X10_add) (a := x0) (ci := 10) (av := [iv_i v3]) (rest := []) yi_X10_add (by decide) rfl C (yk_X10_add) l1_X10_28 (by decide) d_X10_takeRow_21 (fun v hv => ct_X10_add x0 v3 o3 hv) rfl rfl (Nat.le_of_ble_eq_true rfl) h (fun M4 h => ?_)
      refine V_iinc (j := 2) (lv' := [(2, iv_i (wr_i (x2 + 1))), (0, .ref (G.1 + x0)), (1, .ref (G.1 + x1))]) C d_X10_takeRow_24 rfl (by decide) rfl ?_
      refine V_goto (tgt := 6) C d_X10_takeRow_27 (by decide) ?_
      refine V_lv [1, 2, 0] rfl (ih M4 (wr_i (x2 + 1)) (ok_wr _) h)
    · skip
      exact V_vret C hR d_X10_takeRow_30 (Option.some.inj h)
set_option maxHeartbeats 4000000 in
set_option maxRecDepth 100000 in
theorem t_X10_takeRow {X : XT_x} {G : GT_g} {M : Mem_m} {z : Mem_m} (C : Cx_ (K_X10_takeRow) X G) (hR : Rx_ X G none) (x0 : Nat) (x1 : Nat)  (h : f_X10_takeRow G.2.2.2 M x0 x1 = some z) : V_ (K_X10_takeRow) X G (Fq_ X G (Qv_ G z)) M 0 [(0, .ref (G.1 + x0)), (1, .ref (G.1 + x1))] [] := by
  unfold f_X10_takeRow at h
  refine V_aload_n (j := 0) C d_X10_takeRow_0 rfl rfl ?_
  refine V_callVwv (K' := K_X10_clear) (a := x0) (ci := 10) (av := []) (rest := []) yi_X10_clear (by decide) rfl C (yk_X10_clear) l1_X10_19 (by decide) d_X10_takeRow_1 (fun v hv => ct_X10_clear x0 hv) rfl rfl (Nat.le_of_ble_eq_true rfl) h (fun M1 h => ?_)
  refine V_iconst C d_X10_takeRow_4 ?_
  refine V_istore_n (lv' := [(2, iv_i 0), (0, .ref (G.1 + x0)), (1, .ref (G.1 + x1))]) C d_X10_takeRow_5 rfl (by decide) rfl ?_
  refine V_lv [1, 2, 0] rfl (t_X10_takeRow_6 C hR x0 x1 FU_ M1 0 (okc rfl) h)
set_option maxHeartbeats 4000000 in
set_option maxRecDepth 100000 in
theorem ct_X10_takeRow {l : Launch} {G : GT_g} {M : Mem_m} (x0 : Nat) (x1 : Nat)  {z : Mem_m} (h : f_X10_takeRow G.2.2.2 M x0 x1 = some z) : MV_ l yX10_takeRow K_X10_takeRow none G M [.ref (G.1 + x0), .ref (G.1 + x1)] z :=
  met_of (by decide +kernel) rfl (Nat.le_of_ble_eq_true rfl) (fun X hl C hR => by subst hl; exact t_X10_takeRow C hR x0 x1  h)
theorem d_X5_become_0 : decode cX5_become 0 = .ok (.aload_n 0, 1) := by decide +kernel
theorem d_X5_become_1 : decode cX5_become 1 = .ok (.iload_n 1, 1) := by decide +kernel
theorem d_X5_become_2 : decode cX5_become 2 = .ok (.putfield 21, 3) := by decide +kernel
theorem d_X5_become_5 : decode cX5_become 5 = .ok (.aload_n 0, 1) := by decide +kernel
theorem d_X5_become_6 : decode cX5_become 6 = .ok (.iload_n 2, 1) := by decide +kernel
theorem d_X5_become_7 : decode cX5_become 7 = .ok (.putfield 25, 3) := by decide +kernel
theorem d_X5_become_10 : decode cX5_become 10 = .ok (.aload_n 0, 1) := by decide +kernel
theorem d_X5_become_11 : decode cX5_become 11 = .ok (.getfield 12, 3) := by decide +kernel
theorem d_X5_become_14 : decode cX5_become 14 = .ok (.aload_n 3, 1) := by decide +kernel
theorem d_X5_become_15 : decode cX5_become 15 = .ok (.invokevirtual 28, 3) := by decide +kernel
theorem d_X5_become_18 : decode cX5_become 18 = .ok (.aload_n 0, 1) := by decide +kernel
theorem d_X5_become_19 : decode cX5_become 19 = .ok (.getfield 18, 3) := by decide +kernel
theorem d_X5_become_22 : decode cX5_become 22 = .ok (.aload_n 0, 1) := by decide +kernel
theorem d_X5_become_23 : decode cX5_become 23 = .ok (.getfield 12, 3) := by decide +kernel
theorem d_X5_become_26 : decode cX5_become 26 = .ok (.invokevirtual 32, 3) := by decide +kernel
theorem d_X5_become_29 : decode cX5_become 29 = .ok (.aload_n 0, 1) := by decide +kernel
theorem d_X5_become_30 : decode cX5_become 30 = .ok (.getfield 25, 3) := by decide +kernel
theorem d_X5_become_33 : decode cX5_become 33 = .ok (.iconst 3, 1) := by decide +kernel
theorem d_X5_become_34 : decode cX5_become 34 = .ok (.if_icmp .ne 41, 3) := by decide +kernel
theorem d_X5_become_37 : decode cX5_become 37 = .ok (.iconst 0, 1) := by decide +kernel
theorem d_X5_become_38 : decode cX5_become 38 = .ok (.istore 4, 2) := by decide +kernel
theorem d_X5_become_40 : decode cX5_become 40 = .ok (.iload 4, 2) := by decide +kernel
theorem d_X5_become_42 : decode cX5_become 42 = .ok (.aload_n 0, 1) := by decide +kernel
theorem d_X5_become_43 : decode cX5_become 43 = .ok (.getfield 12, 3) := by decide +kernel
theorem d_X5_become_46 : decode cX5_become 46 = .ok (.getfield 36, 3) := by decide +kernel
theorem d_X5_become_49 : decode cX5_become 49 = .ok (.if_icmp .ge 26, 3) := by decide +kernel
theorem d_X5_become_52 : decode cX5_become 52 = .ok (.aload_n 0, 1) := by decide +kernel
theorem d_X5_become_53 : decode cX5_become 53 = .ok (.getfield 18, 3) := by decide +kernel
theorem d_X5_become_56 : decode cX5_become 56 = .ok (.aload_n 0, 1) := by decide +kernel
theorem d_X5_become_57 : decode cX5_become 57 = .ok (.getfield 12, 3) := by decide +kernel
theorem d_X5_become_60 : decode cX5_become 60 = .ok (.getfield 39, 3) := by decide +kernel
theorem d_X5_become_63 : decode cX5_become 63 = .ok (.iload 4, 2) := by decide +kernel
theorem d_X5_become_65 : decode cX5_become 65 = .ok (.iaload, 1) := by decide +kernel
theorem d_X5_become_66 : decode cX5_become 66 = .ok (.invokevirtual 43, 3) := by decide +kernel
theorem d_X5_become_69 : decode cX5_become 69 = .ok (.iinc 4 1, 3) := by decide +kernel
theorem d_X5_become_72 : decode cX5_become 72 = .ok (.goto (-32), 3) := by decide +kernel
theorem d_X5_become_75 : decode cX5_become 75 = .ok (.return_, 1) := by decide +kernel
set_option maxHeartbeats 4000000 in
set_option maxRecDepth 100000 in
theorem t_X5_become_40 {X : XT_x} {G : GT_g} {z : Mem_m} (C : Cx_ (K_X5_become) X G) (hR : Rx_ X G none) (x0 : Nat) : ∀ (n : Nat) (M : Mem_m) (x4 : Int) (o_x4 : ok_i x4), f_X5_become_40 G.2.2.2 x0 n M x4 = some z → V_ (K_X5_become) X G (Fq_ X G (Qv_ G z)) M 40 [(0, .ref (G.1 + x0)), (4, iv_i x4)] [] := by
  intro n
  induction n with
  | zero => intro M x4 o_x4 h; exact absurd h (by simp [f_X5_become_40])
  | succ n ih =>
    intro M x4 o_x4 h
    unfold f_X5_become_40 at h
    refine V_iload (j := 1) C d_X5_become_40 rfl ?_
    refine V_aload_n (j := 0) C d_X5_become_42 rfl rfl ?_
    refine V_getR C ck_5 fw_X5_12 d_X5_become_43 h (fun v1 h => ?_)
    refine V_getI C ck_10 fw_X5_36 d_X5_become_46 h (fun v2 o2 h => ?_)
    refine V_icmp_ge (tgt := 75) C d_X5_become_49 (by decide) o_x4 o2 h (fun h => ?_) (fun h => ?_)
    · skip
      refine V_aload_n (j := 0) C d_X5_become_52 rfl rfl ?_
      refine V_getR C ck_5 fw_X5_18 d_X5_become_53 h (fun v3 h => ?_)
      refine V_aload_n (j := 0) C d_X5_become_56 rfl rfl ?_
      refine V_getR C ck_5 fw_X5_12 d_X5_become_57 h (fun v4 h => ?_)
      refine V_getR C ck_10 fw_X5_39 d_X5_become_60 h (fun v5 h => ?_)
      refine V_iload (j := 1) C d_X5_become_63 rfl ?_
      refine V_iald C d_X5_become_65 o_x4 h (fun v6 o6 h => ?_)
      refine V_callVwv (K' := K_X10_add) (a := v3) (ci := 10) (av := [iv_i v6]) (rest := []) yi_X10_add (by decide) rfl C (yk_X10_add) l1_X5_43 (by decide) d_X5_become_66 (fun v hv => ct_X10_add v3 v6 o6 hv) rfl rfl (Nat.le_of_ble_eq_true rfl) h (fun M7 h => ?_)
      refine V_iinc (j := 1) (lv' := [(4, iv_i (wr_i (x4 + 1))), (0, .ref (G.1 + x0))]) C d_X5_become_69 rfl (by decide) rfl ?_
      refine V_goto (tgt := 40) C d_X5_become_72 (by decide) ?_
      refine V_lv [1, 0] rfl (ih M7 (wr_i (x4 + 1)) (ok_wr _) h)
    · skip
      exact V_vret C hR d_X5_become_75 (Option.some.inj h)
set_option maxHeartbeats 4000000 in
set_option maxRecDepth 100000 in
theorem t_X5_become {X : XT_x} {G : GT_g} {M : Mem_m} {z : Mem_m} (C : Cx_ (K_X5_become) X G) (hR : Rx_ X G none) (x0 : Nat) (x1 : Int) (x2 : Int) (x3 : Nat) (o_x1 : ok_i x1) (o_x2 : ok_i x2) (h : f_X5_become G.2.2.2 M x0 x1 x2 x3 = some z) : V_ (K_X5_become) X G (Fq_ X G (Qv_ G z)) M 0 [(0, .ref (G.1 + x0)), (1, iv_i x1), (2, iv_i x2), (3, .ref (G.1 + x3))] [] := by
  unfold f_X5_become at h
  refine V_aload_n (j := 0) C d_X5_become_0 rfl rfl ?_
  refine V_iload_n (j := 1) C d_X5_become_1 rfl rfl ?_
  refine V_putI C ck_5 fw_X5_21 fp_5_0 d_X5_become_2 o_x1 h (fun M1 h => ?_)
  refine V_aload_n (j := 0) C d_X5_become_5 rfl rfl ?_
  refine V_iload_n (j := 2) C d_X5_become_6 rfl rfl ?_
  refine V_putI C ck_5 fw_X5_25 fp_5_1 d_X5_become_7 o_x2 h (fun M2 h => ?_)
  refine V_aload_n (j := 0) C d_X5_become_10 rfl rfl ?_
  refine V_getR C ck_5 fw_X5_12 d_X5_become_11 h (fun v3 h => ?_)
  refine V_aload_n (j := 3) C d_X5_become_14 rfl rfl ?_
  refine V_callVwv (K' := K_X10_takeRow) (a := v3) (ci := 10) (av := [.ref (G.1 + x3)]) (rest := []) yi_X10_takeRow (by decide) rfl C (yk_X10_takeRow) l1_X5_28 (by decide) d_X5_become_15 (fun v hv => ct_X10_takeRow v3 x3 hv) rfl rfl (Nat.le_of_ble_eq_true rfl) h (fun M4 h => ?_)
  refine V_aload_n (j := 0) C d_X5_become_18 rfl rfl ?_
  refine V_getR C ck_5 fw_X5_18 d_X5_become_19 h (fun v5 h => ?_)
  refine V_aload_n (j := 0) C d_X5_become_22 rfl rfl ?_
  refine V_getR C ck_5 fw_X5_12 d_X5_become_23 h (fun v6 h => ?_)
  refine V_callVwv (K' := K_X10_take) (a := v5) (ci := 10) (av := [.ref (G.1 + v6)]) (rest := []) yi_X10_take (by decide) rfl C (yk_X10_take) l1_X5_32 (by decide) d_X5_become_26 (fun v hv => ct_X10_take v5 v6 hv) rfl rfl (Nat.le_of_ble_eq_true rfl) h (fun M7 h => ?_)
  refine V_aload_n (j := 0) C d_X5_become_29 rfl rfl ?_
  refine V_getI C ck_5 fw_X5_25 d_X5_become_30 h (fun v8 o8 h => ?_)
  refine V_iconst C d_X5_become_33 ?_
  refine V_icmp_ne (tgt := 75) C d_X5_become_34 (by decide) o8 (okc rfl) h (fun h => ?_) (fun h => ?_)
  · skip
    refine V_iconst C d_X5_become_37 ?_
    refine V_istore (lv' := [(4, iv_i 0), (0, .ref (G.1 + x0)), (1, iv_i x1), (2, iv_i x2), (3, .ref (G.1 + x3))]) C d_X5_become_38 (by decide) rfl ?_
    refine V_lv [1, 0] rfl (t_X5_become_40 C hR x0 FU_ M7 0 (okc rfl) h)
  · skip
    exact V_vret C hR d_X5_become_75 (Option.some.inj h)
set_option maxHeartbeats 4000000 in
set_option maxRecDepth 100000 in
theorem ct_X5_become {l : Launch} {G : GT_g} {M : Mem_m} (x0 : Nat) (x1 : Int) (x2 : Int) (x3 : Nat) (o_x1 : ok_i x1) (o_x2 : ok_i x2) {z : Mem_m} (h : f_X5_become G.2.2.2 M x0 x1 x2 x3 = some z) : MV_ l yX5_become K_X5_become none G M [.ref (G.1 + x0), iv_i x1, iv_i x2, .ref (G.1 + x3)] z :=
  met_of (by decide +kernel) rfl (Nat.le_of_ble_eq_true rfl) (fun X hl C hR => by subst hl; exact t_X5_become C hR x0 x1 x2 x3 o_x1 o_x2 h)
theorem d_X5_failure_0 : decode cX5_failure 0 = .ok (.aload_n 0, 1) := by decide +kernel
theorem d_X5_failure_1 : decode cX5_failure 1 = .ok (.getfield 25, 3) := by decide +kernel
theorem d_X5_failure_4 : decode cX5_failure 4 = .ok (.iconst 2, 1) := by decide +kernel
theorem d_X5_failure_5 : decode cX5_failure 5 = .ok (.if_icmp .eq 14, 3) := by decide +kernel
theorem d_X5_failure_8 : decode cX5_failure 8 = .ok (.aload_n 0, 1) := by decide +kernel
theorem d_X5_failure_9 : decode cX5_failure 9 = .ok (.getfield 12, 3) := by decide +kernel
theorem d_X5_failure_12 : decode cX5_failure 12 = .ok (.getfield 36, 3) := by decide +kernel
theorem d_X5_failure_15 : decode cX5_failure 15 = .ok (.iconst 2, 1) := by decide +kernel
theorem d_X5_failure_16 : decode cX5_failure 16 = .ok (.if_icmp .ge 6, 3) := by decide +kernel
theorem d_X5_failure_19 : decode cX5_failure 19 = .ok (.bipush (-15), 2) := by decide +kernel
theorem d_X5_failure_21 : decode cX5_failure 21 = .ok (.ireturn, 1) := by decide +kernel
theorem d_X5_failure_22 : decode cX5_failure 22 = .ok (.aload_n 0, 1) := by decide +kernel
theorem d_X5_failure_23 : decode cX5_failure 23 = .ok (.getfield 25, 3) := by decide +kernel
theorem d_X5_failure_26 : decode cX5_failure 26 = .ok (.iconst 3, 1) := by decide +kernel
theorem d_X5_failure_27 : decode cX5_failure 27 = .ok (.if_icmp .ne 13, 3) := by decide +kernel
theorem d_X5_failure_30 : decode cX5_failure 30 = .ok (.aload_n 0, 1) := by decide +kernel
theorem d_X5_failure_31 : decode cX5_failure 31 = .ok (.getfield 12, 3) := by decide +kernel
theorem d_X5_failure_34 : decode cX5_failure 34 = .ok (.getfield 39, 3) := by decide +kernel
theorem d_X5_failure_37 : decode cX5_failure 37 = .ok (.iconst 0, 1) := by decide +kernel
theorem d_X5_failure_38 : decode cX5_failure 38 = .ok (.iaload, 1) := by decide +kernel
theorem d_X5_failure_39 : decode cX5_failure 39 = .ok (.ireturn, 1) := by decide +kernel
theorem d_X5_failure_40 : decode cX5_failure 40 = .ok (.aload_n 0, 1) := by decide +kernel
theorem d_X5_failure_41 : decode cX5_failure 41 = .ok (.getfield 25, 3) := by decide +kernel
theorem d_X5_failure_44 : decode cX5_failure 44 = .ok (.iconst 4, 1) := by decide +kernel
theorem d_X5_failure_45 : decode cX5_failure 45 = .ok (.if_icmp .ne 13, 3) := by decide +kernel
theorem d_X5_failure_48 : decode cX5_failure 48 = .ok (.aload_n 0, 1) := by decide +kernel
theorem d_X5_failure_49 : decode cX5_failure 49 = .ok (.getfield 21, 3) := by decide +kernel
theorem d_X5_failure_52 : decode cX5_failure 52 = .ok (.bipush 100, 2) := by decide +kernel
theorem d_X5_failure_54 : decode cX5_failure 54 = .ok (.iadd, 1) := by decide +kernel
theorem d_X5_failure_55 : decode cX5_failure 55 = .ok (.goto 7, 3) := by decide +kernel
theorem d_X5_failure_58 : decode cX5_failure 58 = .ok (.aload_n 0, 1) := by decide +kernel
theorem d_X5_failure_59 : decode cX5_failure 59 = .ok (.getfield 21, 3) := by decide +kernel
theorem d_X5_failure_62 : decode cX5_failure 62 = .ok (.ireturn, 1) := by decide +kernel
set_option maxHeartbeats 4000000 in
set_option maxRecDepth 100000 in
theorem t_X5_failure {X : XT_x} {G : GT_g} {M : Mem_m} {z : Int} (C : Cx_ (K_X5_failure) X G) (hR : Rx_ X G (some .int)) (x0 : Nat)  (h : f_X5_failure G.2.2.2 M x0 = some z) : V_ (K_X5_failure) X G (Fq_ X G (Qi_ G M z)) M 0 [(0, .ref (G.1 + x0))] [] := by
  unfold f_X5_failure at h
  refine V_aload_n (j := 0) C d_X5_failure_0 rfl rfl ?_
  refine V_getI C ck_5 fw_X5_25 d_X5_failure_1 h (fun v1 o1 h => ?_)
  refine V_iconst C d_X5_failure_4 ?_
  refine V_icmp_eq (tgt := 19) C d_X5_failure_5 (by decide) o1 (okc rfl) h (fun h => ?_) (fun h => ?_)
  · skip
    refine V_bipush (v := (-15)) C d_X5_failure_19 rfl ?_
    exact V_iret_r C hR d_X5_failure_21 (okc rfl) h
  · skip
    refine V_aload_n (j := 0) C d_X5_failure_8 rfl rfl ?_
    refine V_getR C ck_5 fw_X5_12 d_X5_failure_9 h (fun v2 h => ?_)
    refine V_getI C ck_10 fw_X5_36 d_X5_failure_12 h (fun v3 o3 h => ?_)
    refine V_iconst C d_X5_failure_15 ?_
    refine V_icmp_ge (tgt := 22) C d_X5_failure_16 (by decide) o3 (okc rfl) h (fun h => ?_) (fun h => ?_)
    · skip
      refine V_bipush (v := (-15)) C d_X5_failure_19 rfl ?_
      exact V_iret_r C hR d_X5_failure_21 (okc rfl) h
    · skip
      refine V_aload_n (j := 0) C d_X5_failure_22 rfl rfl ?_
      refine V_getI C ck_5 fw_X5_25 d_X5_failure_23 h (fun v4 o4 h => ?_)
      refine V_iconst C d_X5_failure_26 ?_
      refine V_icmp_ne (tgt := 40) C d_X5_failure_27 (by decide) o4 (okc rfl) h (fun h => ?_) (fun h => ?_)
      · skip
        refine V_aload_n (j := 0) C d_X5_failure_30 rfl rfl ?_
        refine V_getR C ck_5 fw_X5_12 d_X5_failure_31 h (fun v5 h => ?_)
        refine V_getR C ck_10 fw_X5_39 d_X5_failure_34 h (fun v6 h => ?_)
        refine V_iconst C d_X5_failure_37 ?_
        refine V_iald C d_X5_failure_38 (okc rfl) h (fun v7 o7 h => ?_)
        exact V_iret_r C hR d_X5_failure_39 o7 h
      · skip
        refine V_aload_n (j := 0) C d_X5_failure_40 rfl rfl ?_
        refine V_getI C ck_5 fw_X5_25 d_X5_failure_41 h (fun v8 o8 h => ?_)
        refine V_iconst C d_X5_failure_44 ?_
        refine V_icmp_ne (tgt := 58) C d_X5_failure_45 (by decide) o8 (okc rfl) h (fun h => ?_) (fun h => ?_)
        · skip
          refine V_aload_n (j := 0) C d_X5_failure_48 rfl rfl ?_
          refine V_getI C ck_5 fw_X5_21 d_X5_failure_49 h (fun v9 o9 h => ?_)
          refine V_bipush (v := 100) C d_X5_failure_52 rfl ?_
          refine V_iadd C d_X5_failure_54 ?_
          refine V_goto (tgt := 62) C d_X5_failure_55 (by decide) ?_
          exact V_iret_r C hR d_X5_failure_62 (ok_wr _) h
        · skip
          refine V_aload_n (j := 0) C d_X5_failure_58 rfl rfl ?_
          refine V_getI C ck_5 fw_X5_21 d_X5_failure_59 h (fun v10 o10 h => ?_)
          exact V_iret_r C hR d_X5_failure_62 o10 h
set_option maxHeartbeats 4000000 in
set_option maxRecDepth 100000 in
theorem ct_X5_failure {l : Launch} {G : GT_g} {M : Mem_m} (x0 : Nat)  {z : Int} (h : f_X5_failure G.2.2.2 M x0 = some z) : MI_ l yX5_failure K_X5_failure (some .int) G M [.ref (G.1 + x0)] M z :=
  met_of (by decide +kernel) rfl (Nat.le_of_ble_eq_true rfl) (fun X hl C hR => by subst hl; exact t_X5_failure C hR x0  h)
