theorem d_X0_isRested_0 : decode cX0_isRested 0 = .ok (.iconst 0, 1) := by decide +kernel
theorem d_X0_isRested_1 : decode cX0_isRested 1 = .ok (.istore_n 3, 1) := by decide +kernel
theorem d_X0_isRested_2 : decode cX0_isRested 2 = .ok (.iload_n 3, 1) := by decide +kernel
theorem d_X0_isRested_3 : decode cX0_isRested 3 = .ok (.aload_n 0, 1) := by decide +kernel
theorem d_X0_isRested_4 : decode cX0_isRested 4 = .ok (.getfield 88, 3) := by decide +kernel
theorem d_X0_isRested_7 : decode cX0_isRested 7 = .ok (.if_icmp .ge 44, 3) := by decide +kernel
theorem d_X0_isRested_10 : decode cX0_isRested 10 = .ok (.aload_n 0, 1) := by decide +kernel
theorem d_X0_isRested_11 : decode cX0_isRested 11 = .ok (.getfield 41, 3) := by decide +kernel
theorem d_X0_isRested_14 : decode cX0_isRested 14 = .ok (.iload_n 3, 1) := by decide +kernel
theorem d_X0_isRested_15 : decode cX0_isRested 15 = .ok (.aaload, 1) := by decide +kernel
theorem d_X0_isRested_16 : decode cX0_isRested 16 = .ok (.getfield 151, 3) := by decide +kernel
theorem d_X0_isRested_19 : decode cX0_isRested 19 = .ok (.iload_n 1, 1) := by decide +kernel
theorem d_X0_isRested_20 : decode cX0_isRested 20 = .ok (.if_icmp .ne 25, 3) := by decide +kernel
theorem d_X0_isRested_23 : decode cX0_isRested 23 = .ok (.aload_n 0, 1) := by decide +kernel
theorem d_X0_isRested_24 : decode cX0_isRested 24 = .ok (.getfield 41, 3) := by decide +kernel
theorem d_X0_isRested_27 : decode cX0_isRested 27 = .ok (.iload_n 3, 1) := by decide +kernel
theorem d_X0_isRested_28 : decode cX0_isRested 28 = .ok (.aaload, 1) := by decide +kernel
theorem d_X0_isRested_29 : decode cX0_isRested 29 = .ok (.getfield 161, 3) := by decide +kernel
theorem d_X0_isRested_32 : decode cX0_isRested 32 = .ok (.aload_n 0, 1) := by decide +kernel
theorem d_X0_isRested_33 : decode cX0_isRested 33 = .ok (.getfield 18, 3) := by decide +kernel
theorem d_X0_isRested_36 : decode cX0_isRested 36 = .ok (.iload_n 1, 1) := by decide +kernel
theorem d_X0_isRested_37 : decode cX0_isRested 37 = .ok (.iaload, 1) := by decide +kernel
theorem d_X0_isRested_38 : decode cX0_isRested 38 = .ok (.iadd, 1) := by decide +kernel
theorem d_X0_isRested_39 : decode cX0_isRested 39 = .ok (.iload_n 2, 1) := by decide +kernel
theorem d_X0_isRested_40 : decode cX0_isRested 40 = .ok (.if_icmp .le 5, 3) := by decide +kernel
theorem d_X0_isRested_43 : decode cX0_isRested 43 = .ok (.iconst 0, 1) := by decide +kernel
theorem d_X0_isRested_44 : decode cX0_isRested 44 = .ok (.ireturn, 1) := by decide +kernel
theorem d_X0_isRested_45 : decode cX0_isRested 45 = .ok (.iinc 3 1, 3) := by decide +kernel
theorem d_X0_isRested_48 : decode cX0_isRested 48 = .ok (.goto (-46), 3) := by decide +kernel
theorem d_X0_isRested_51 : decode cX0_isRested 51 = .ok (.iconst 1, 1) := by decide +kernel
theorem d_X0_isRested_52 : decode cX0_isRested 52 = .ok (.ireturn, 1) := by decide +kernel
set_option maxHeartbeats 4000000 in
set_option maxRecDepth 100000 in
theorem t_X0_isRested_2 {X : XT_x} {G : GT_g} {z : Int} (C : Cx_ (K_X0_isRested) X G) (hR : Rx_ X G (some .boolean)) (M : Mem_m) (x0 : Nat) (x1 : Int) (x2 : Int) (o_x1 : ok_i x1) (o_x2 : ok_i x2) : ∀ (n : Nat) (x3 : Int) (o_x3 : ok_i x3), f_X0_isRested_2 G.2.2.2 M x0 x1 x2 n x3 = some z → V_ (K_X0_isRested) X G (Fq_ X G (Qi_ G M z)) M 2 [(0, .ref (G.1 + x0)), (1, iv_i x1), (2, iv_i x2), (3, iv_i x3)] [] := by
  intro n
  induction n with
  | zero => intro x3 o_x3 h; exact absurd h (by simp [f_X0_isRested_2])
  | succ n ih =>
    intro x3 o_x3 h
    unfold f_X0_isRested_2 at h
    refine V_iload_n (j := 3) C d_X0_isRested_2 rfl rfl ?_
    refine V_aload_n (j := 0) C d_X0_isRested_3 rfl rfl ?_
    refine V_getI C ck_0 fw_X0_88 d_X0_isRested_4 h (fun v1 o1 h => ?_)
    refine V_icmp_ge (tgt := 51) C d_X0_isRested_7 (by decide) o_x3 o1 h (fun h => ?_) (fun h => ?_)
    · skip
      refine V_aload_n (j := 0) C d_X0_isRested_10 rfl rfl ?_
      refine V_getR C ck_0 fw_X0_41 d_X0_isRested_11 h (fun v2 h => ?_)
      refine V_iload_n (j := 3) C d_X0_isRested_14 rfl rfl ?_
      refine V_aald (t := 3) C tc_3 d_X0_isRested_15 o_x3 h (fun v3 h => ?_)
      refine V_getI C ck_8 fw_X0_151 d_X0_isRested_16 h (fun v4 o4 h => ?_)
      refine V_iload_n (j := 1) C d_X0_isRested_19 rfl rfl ?_
      refine V_icmp_ne (tgt := 45) C d_X0_isRested_20 (by decide) o4 o_x1 h (fun h => ?_) (fun h => ?_)
      · skip
        refine V_aload_n (j := 0) C d_X0_isRested_23 rfl rfl ?_
        refine V_getR C ck_0 fw_X0_41 d_X0_isRested_24 h (fun v5 h => ?_)
        refine V_iload_n (j := 3) C d_X0_isRested_27 rfl rfl ?_
        refine V_aald (t := 3) C tc_3 d_X0_isRested_28 o_x3 h (fun v6 h => ?_)
        refine V_getI C ck_8 fw_X0_161 d_X0_isRested_29 h (fun v7 o7 h => ?_)
        refine V_aload_n (j := 0) C d_X0_isRested_32 rfl rfl ?_
        refine V_getR C ck_0 fw_X0_18 d_X0_isRested_33 h (fun v8 h => ?_)
        refine V_iload_n (j := 1) C d_X0_isRested_36 rfl rfl ?_
        refine V_iald C d_X0_isRested_37 o_x1 h (fun v9 o9 h => ?_)
        refine V_iadd C d_X0_isRested_38 ?_
        refine V_iload_n (j := 2) C d_X0_isRested_39 rfl rfl ?_
        refine V_icmp_le (tgt := 45) C d_X0_isRested_40 (by decide) (ok_wr _) o_x2 h (fun h => ?_) (fun h => ?_)
        · skip
          refine V_iinc (j := 3) (lv' := [(3, iv_i (wr_i (x3 + 1))), (0, .ref (G.1 + x0)), (1, iv_i x1), (2, iv_i x2)]) C d_X0_isRested_45 rfl (by decide) rfl ?_
          refine V_goto (tgt := 2) C d_X0_isRested_48 (by decide) ?_
          refine V_lv [1, 2, 3, 0] rfl (ih (wr_i (x3 + 1)) (ok_wr _) h)
        · skip
          refine V_iconst C d_X0_isRested_43 ?_
          exact V_zret_r C hR d_X0_isRested_44 (Or.inl rfl) h
      · skip
        refine V_iinc (j := 3) (lv' := [(3, iv_i (wr_i (x3 + 1))), (0, .ref (G.1 + x0)), (1, iv_i x1), (2, iv_i x2)]) C d_X0_isRested_45 rfl (by decide) rfl ?_
        refine V_goto (tgt := 2) C d_X0_isRested_48 (by decide) ?_
        refine V_lv [1, 2, 3, 0] rfl (ih (wr_i (x3 + 1)) (ok_wr _) h)
    · skip
      refine V_iconst C d_X0_isRested_51 ?_
      exact V_zret_r C hR d_X0_isRested_52 (Or.inr rfl) h
set_option maxHeartbeats 4000000 in
set_option maxRecDepth 100000 in
theorem t_X0_isRested {X : XT_x} {G : GT_g} {M : Mem_m} {z : Int} (C : Cx_ (K_X0_isRested) X G) (hR : Rx_ X G (some .boolean)) (x0 : Nat) (x1 : Int) (x2 : Int) (o_x1 : ok_i x1) (o_x2 : ok_i x2) (h : f_X0_isRested G.2.2.2 M x0 x1 x2 = some z) : V_ (K_X0_isRested) X G (Fq_ X G (Qi_ G M z)) M 0 [(0, .ref (G.1 + x0)), (1, iv_i x1), (2, iv_i x2)] [] := by
  unfold f_X0_isRested at h
  refine V_iconst C d_X0_isRested_0 ?_
  refine V_istore_n (lv' := [(3, iv_i 0), (0, .ref (G.1 + x0)), (1, iv_i x1), (2, iv_i x2)]) C d_X0_isRested_1 rfl (by decide) rfl ?_
  refine V_lv [1, 2, 3, 0] rfl (t_X0_isRested_2 C hR M x0 x1 x2 o_x1 o_x2 FU_ 0 (okc rfl) h)
set_option maxHeartbeats 4000000 in
set_option maxRecDepth 100000 in
theorem ct_X0_isRested {l : Launch} {G : GT_g} {M : Mem_m} (x0 : Nat) (x1 : Int) (x2 : Int) (o_x1 : ok_i x1) (o_x2 : ok_i x2) {z : Int} (h : f_X0_isRested G.2.2.2 M x0 x1 x2 = some z) : MI_ l yX0_isRested K_X0_isRested (some .boolean) G M [.ref (G.1 + x0), iv_i x1, iv_i x2] M z :=
  met_of (by decide +kernel) rfl (Nat.le_of_ble_eq_true rfl) (fun X hl C hR => by subst hl; exact t_X0_isRested C hR x0 x1 x2 o_x1 o_x2 h)
theorem d_X1_isOtherHearing_0 : decode cX1_isOtherHearing 0 = .ok (.aload_n 0, 1) := by decide +kernel
theorem d_X1_isOtherHearing_1 : decode cX1_isOtherHearing 1 = .ok (.getfield 22, 3) := by decide +kernel
theorem d_X1_isOtherHearing_4 : decode cX1_isOtherHearing 4 = .ok (.ifCond .ne 47, 3) := by decide +kernel
theorem d_X1_isOtherHearing_7 : decode cX1_isOtherHearing 7 = .ok (.aload_n 1, 1) := by decide +kernel
theorem d_X1_isOtherHearing_8 : decode cX1_isOtherHearing 8 = .ok (.getfield 22, 3) := by decide +kernel
theorem d_X1_isOtherHearing_11 : decode cX1_isOtherHearing 11 = .ok (.ifCond .ne 40, 3) := by decide +kernel
theorem d_X1_isOtherHearing_14 : decode cX1_isOtherHearing 14 = .ok (.aload_n 0, 1) := by decide +kernel
theorem d_X1_isOtherHearing_15 : decode cX1_isOtherHearing 15 = .ok (.getfield 26, 3) := by decide +kernel
theorem d_X1_isOtherHearing_18 : decode cX1_isOtherHearing 18 = .ok (.aload_n 1, 1) := by decide +kernel
theorem d_X1_isOtherHearing_19 : decode cX1_isOtherHearing 19 = .ok (.getfield 26, 3) := by decide +kernel
theorem d_X1_isOtherHearing_22 : decode cX1_isOtherHearing 22 = .ok (.if_icmp .ne 29, 3) := by decide +kernel
theorem d_X1_isOtherHearing_25 : decode cX1_isOtherHearing 25 = .ok (.aload_n 0, 1) := by decide +kernel
theorem d_X1_isOtherHearing_26 : decode cX1_isOtherHearing 26 = .ok (.getfield 29, 3) := by decide +kernel
theorem d_X1_isOtherHearing_29 : decode cX1_isOtherHearing 29 = .ok (.aload_n 1, 1) := by decide +kernel
theorem d_X1_isOtherHearing_30 : decode cX1_isOtherHearing 30 = .ok (.getfield 29, 3) := by decide +kernel
theorem d_X1_isOtherHearing_33 : decode cX1_isOtherHearing 33 = .ok (.if_icmp .ne 18, 3) := by decide +kernel
theorem d_X1_isOtherHearing_36 : decode cX1_isOtherHearing 36 = .ok (.aload_n 0, 1) := by decide +kernel
theorem d_X1_isOtherHearing_37 : decode cX1_isOtherHearing 37 = .ok (.getfield 32, 3) := by decide +kernel
theorem d_X1_isOtherHearing_40 : decode cX1_isOtherHearing 40 = .ok (.aload_n 1, 1) := by decide +kernel
theorem d_X1_isOtherHearing_41 : decode cX1_isOtherHearing 41 = .ok (.getfield 32, 3) := by decide +kernel
theorem d_X1_isOtherHearing_44 : decode cX1_isOtherHearing 44 = .ok (.if_icmp .eq 7, 3) := by decide +kernel
theorem d_X1_isOtherHearing_47 : decode cX1_isOtherHearing 47 = .ok (.iconst 1, 1) := by decide +kernel
theorem d_X1_isOtherHearing_48 : decode cX1_isOtherHearing 48 = .ok (.goto 4, 3) := by decide +kernel
theorem d_X1_isOtherHearing_51 : decode cX1_isOtherHearing 51 = .ok (.iconst 0, 1) := by decide +kernel
theorem d_X1_isOtherHearing_52 : decode cX1_isOtherHearing 52 = .ok (.ireturn, 1) := by decide +kernel
set_option maxHeartbeats 4000000 in
set_option maxRecDepth 100000 in
theorem t_X1_isOtherHearing {X : XT_x} {G : GT_g} {M : Mem_m} {z : Int} (C : Cx_ (K_X1_isOtherHearing) X G) (hR : Rx_ X G (some .boolean)) (x0 : Nat) (x1 : Nat)  (h : f_X1_isOtherHearing G.2.2.2 M x0 x1 = some z) : V_ (K_X1_isOtherHearing) X G (Fq_ X G (Qi_ G M z)) M 0 [(0, .ref (G.1 + x0)), (1, .ref (G.1 + x1))] [] := by
  unfold f_X1_isOtherHearing at h
  refine V_aload_n (j := 0) C d_X1_isOtherHearing_0 rfl rfl ?_
  refine V_getI C ck_1 fw_X1_22 d_X1_isOtherHearing_1 h (fun v1 o1 h => ?_)
  refine V_if_ne (tgt := 51) C d_X1_isOtherHearing_4 (by decide) o1 h (fun h => ?_) (fun h => ?_)
  · skip
    refine V_aload_n (j := 1) C d_X1_isOtherHearing_7 rfl rfl ?_
    refine V_getI C ck_1 fw_X1_22 d_X1_isOtherHearing_8 h (fun v2 o2 h => ?_)
    refine V_if_ne (tgt := 51) C d_X1_isOtherHearing_11 (by decide) o2 h (fun h => ?_) (fun h => ?_)
    · skip
      refine V_aload_n (j := 0) C d_X1_isOtherHearing_14 rfl rfl ?_
      refine V_getI C ck_1 fw_X1_26 d_X1_isOtherHearing_15 h (fun v3 o3 h => ?_)
      refine V_aload_n (j := 1) C d_X1_isOtherHearing_18 rfl rfl ?_
      refine V_getI C ck_1 fw_X1_26 d_X1_isOtherHearing_19 h (fun v4 o4 h => ?_)
      refine V_icmp_ne (tgt := 51) C d_X1_isOtherHearing_22 (by decide) o3 o4 h (fun h => ?_) (fun h => ?_)
      · skip
        refine V_aload_n (j := 0) C d_X1_isOtherHearing_25 rfl rfl ?_
        refine V_getI C ck_1 fw_X1_29 d_X1_isOtherHearing_26 h (fun v5 o5 h => ?_)
        refine V_aload_n (j := 1) C d_X1_isOtherHearing_29 rfl rfl ?_
        refine V_getI C ck_1 fw_X1_29 d_X1_isOtherHearing_30 h (fun v6 o6 h => ?_)
        refine V_icmp_ne (tgt := 51) C d_X1_isOtherHearing_33 (by decide) o5 o6 h (fun h => ?_) (fun h => ?_)
        · skip
          refine V_aload_n (j := 0) C d_X1_isOtherHearing_36 rfl rfl ?_
          refine V_getI C ck_1 fw_X1_32 d_X1_isOtherHearing_37 h (fun v7 o7 h => ?_)
          refine V_aload_n (j := 1) C d_X1_isOtherHearing_40 rfl rfl ?_
          refine V_getI C ck_1 fw_X1_32 d_X1_isOtherHearing_41 h (fun v8 o8 h => ?_)
          refine V_icmp_eq (tgt := 51) C d_X1_isOtherHearing_44 (by decide) o7 o8 h (fun h => ?_) (fun h => ?_)
          · skip
            refine V_iconst C d_X1_isOtherHearing_51 ?_
            exact V_zret_r C hR d_X1_isOtherHearing_52 (Or.inl rfl) h
          · skip
            refine V_iconst C d_X1_isOtherHearing_47 ?_
            refine V_goto (tgt := 52) C d_X1_isOtherHearing_48 (by decide) ?_
            exact V_zret_r C hR d_X1_isOtherHearing_52 (Or.inr rfl) h
        · skip
          refine V_iconst C d_X1_isOtherHearing_51 ?_
          exact V_zret_r C hR d_X1_isOtherHearing_52 (Or.inl rfl) h
      · skip
        refine V_iconst C d_X1_isOtherHearing_51 ?_
        exact V_zret_r C hR d_X1_isOtherHearing_52 (Or.inl rfl) h
    · skip
      refine V_iconst C d_X1_isOtherHearing_51 ?_
      exact V_zret_r C hR d_X1_isOtherHearing_52 (Or.inl rfl) h
  · skip
    refine V_iconst C d_X1_isOtherHearing_51 ?_
    exact V_zret_r C hR d_X1_isOtherHearing_52 (Or.inl rfl) h
set_option maxHeartbeats 4000000 in
set_option maxRecDepth 100000 in
theorem ct_X1_isOtherHearing {l : Launch} {G : GT_g} {M : Mem_m} (x0 : Nat) (x1 : Nat)  {z : Int} (h : f_X1_isOtherHearing G.2.2.2 M x0 x1 = some z) : MI_ l yX1_isOtherHearing K_X1_isOtherHearing (some .boolean) G M [.ref (G.1 + x0), .ref (G.1 + x1)] M z :=
  met_of (by decide +kernel) rfl (Nat.le_of_ble_eq_true rfl) (fun X hl C hR => by subst hl; exact t_X1_isOtherHearing C hR x0 x1  h)
theorem d_J7_fill_53178_0 : decode cJ7_fill_53178 0 = .ok (.iconst 0, 1) := by decide +kernel
theorem d_J7_fill_53178_1 : decode cJ7_fill_53178 1 = .ok (.istore_n 2, 1) := by decide +kernel
theorem d_J7_fill_53178_2 : decode cJ7_fill_53178 2 = .ok (.aload_n 0, 1) := by decide +kernel
theorem d_J7_fill_53178_3 : decode cJ7_fill_53178 3 = .ok (.arraylength, 1) := by decide +kernel
theorem d_J7_fill_53178_4 : decode cJ7_fill_53178 4 = .ok (.istore_n 3, 1) := by decide +kernel
theorem d_J7_fill_53178_5 : decode cJ7_fill_53178 5 = .ok (.iload_n 2, 1) := by decide +kernel
theorem d_J7_fill_53178_6 : decode cJ7_fill_53178 6 = .ok (.iload_n 3, 1) := by decide +kernel
theorem d_J7_fill_53178_7 : decode cJ7_fill_53178 7 = .ok (.if_icmp .ge 13, 3) := by decide +kernel
theorem d_J7_fill_53178_10 : decode cJ7_fill_53178 10 = .ok (.aload_n 0, 1) := by decide +kernel
theorem d_J7_fill_53178_11 : decode cJ7_fill_53178 11 = .ok (.iload_n 2, 1) := by decide +kernel
theorem d_J7_fill_53178_12 : decode cJ7_fill_53178 12 = .ok (.iload_n 1, 1) := by decide +kernel
theorem d_J7_fill_53178_13 : decode cJ7_fill_53178 13 = .ok (.iastore, 1) := by decide +kernel
theorem d_J7_fill_53178_14 : decode cJ7_fill_53178 14 = .ok (.iinc 2 1, 3) := by decide +kernel
theorem d_J7_fill_53178_17 : decode cJ7_fill_53178 17 = .ok (.goto (-12), 3) := by decide +kernel
theorem d_J7_fill_53178_20 : decode cJ7_fill_53178 20 = .ok (.return_, 1) := by decide +kernel
set_option maxHeartbeats 4000000 in
set_option maxRecDepth 100000 in
theorem t_J7_fill_53178_5 {X : XT_x} {G : GT_g} {z : Mem_m} (C : Cx_ (K_J7_fill_53178) X G) (hR : Rx_ X G none) (x0 : Nat) (x1 : Int) (x3 : Int) (o_x1 : ok_i x1) (o_x3 : ok_i x3) : ∀ (n : Nat) (M : Mem_m) (x2 : Int) (o_x2 : ok_i x2), f_J7_fill_53178_5 G.2.2.2 x0 x1 x3 n M x2 = some z → V_ (K_J7_fill_53178) X G (Fq_ X G (Qv_ G z)) M 5 [(0, .ref (G.1 + x0)), (1, iv_i x1), (2, iv_i x2), (3, iv_i x3)] [] := by
  intro n
  induction n with
  | zero => intro M x2 o_x2 h; exact absurd h (by simp [f_J7_fill_53178_5])
  | succ n ih =>
    intro M x2 o_x2 h
    unfold f_J7_fill_53178_5 at h
    refine V_iload_n (j := 2) C d_J7_fill_53178_5 rfl rfl ?_
    refine V_iload_n (j := 3) C d_J7_fill_53178_6 rfl rfl ?_
    refine V_icmp_ge (tgt := 20) C d_J7_fill_53178_7 (by decide) o_x2 o_x3 h (fun h => ?_) (fun h => ?_)
    · skip
      refine V_aload_n (j := 0) C d_J7_fill_53178_10 rfl rfl ?_
      refine V_iload_n (j := 2) C d_J7_fill_53178_11 rfl rfl ?_
      refine V_iload_n (j := 1) C d_J7_fill_53178_12 rfl rfl ?_
      refine V_iast C d_J7_fill_53178_13 o_x2 o_x1 h (fun M1 h => ?_)
      refine V_iinc (j := 2) (lv' := [(2, iv_i (wr_i (x2 + 1))), (0, .ref (G.1 + x0)), (1, iv_i x1), (3, iv_i x3)]) C d_J7_fill_53178_14 rfl (by decide) rfl ?_
      refine V_goto (tgt := 5) C d_J7_fill_53178_17 (by decide) ?_
      refine V_lv [1, 2, 0, 3] rfl (ih M1 (wr_i (x2 + 1)) (ok_wr _) h)
    · skip
      exact V_vret C hR d_J7_fill_53178_20 (Option.some.inj h)
set_option maxHeartbeats 4000000 in
set_option maxRecDepth 100000 in
theorem t_J7_fill_53178 {X : XT_x} {G : GT_g} {M : Mem_m} {z : Mem_m} (C : Cx_ (K_J7_fill_53178) X G) (hR : Rx_ X G none) (x0 : Nat) (x1 : Int) (o_x1 : ok_i x1) (h : f_J7_fill_53178 G.2.2.2 M x0 x1 = some z) : V_ (K_J7_fill_53178) X G (Fq_ X G (Qv_ G z)) M 0 [(0, .ref (G.1 + x0)), (1, iv_i x1)] [] := by
  unfold f_J7_fill_53178 at h
  refine V_iconst C d_J7_fill_53178_0 ?_
  refine V_istore_n (lv' := [(2, iv_i 0), (0, .ref (G.1 + x0)), (1, iv_i x1)]) C d_J7_fill_53178_1 rfl (by decide) rfl ?_
  refine V_aload_n (j := 1) C d_J7_fill_53178_2 rfl rfl ?_
  refine V_alen C d_J7_fill_53178_3 h (fun v1 o1 h => ?_)
  refine V_istore_n (lv' := [(3, iv_i v1), (2, iv_i 0), (0, .ref (G.1 + x0)), (1, iv_i x1)]) C d_J7_fill_53178_4 rfl (by decide) rfl ?_
  refine V_lv [2, 3, 1, 0] rfl (t_J7_fill_53178_5 C hR x0 x1 v1 o_x1 o1 FU_ M 0 (okc rfl) h)
set_option maxHeartbeats 4000000 in
set_option maxRecDepth 100000 in
theorem ct_J7_fill_53178 {l : Launch} {G : GT_g} {M : Mem_m} (x0 : Nat) (x1 : Int) (o_x1 : ok_i x1) {z : Mem_m} (h : f_J7_fill_53178 G.2.2.2 M x0 x1 = some z) : MV_ l yJ7_fill_53178 K_J7_fill_53178 none G M [.ref (G.1 + x0), iv_i x1] z :=
  met_of (by decide +kernel) rfl (Nat.le_of_ble_eq_true rfl) (fun X hl C hR => by subst hl; exact t_J7_fill_53178 C hR x0 x1 o_x1 h)
theorem d_X10_standsAt_0 : decode cX10_standsAt 0 = .ok (.iload_n 1, 1) := by decide +kernel
theorem d_X10_standsAt_1 : decode cX10_standsAt 1 = .ok (.aload_n 2, 1) := by decide +kernel
theorem d_X10_standsAt_2 : decode cX10_standsAt 2 = .ok (.getfield 15, 3) := by decide +kernel
theorem d_X10_standsAt_5 : decode cX10_standsAt 5 = .ok (.iadd, 1) := by decide +kernel
theorem d_X10_standsAt_6 : decode cX10_standsAt 6 = .ok (.aload_n 0, 1) := by decide +kernel
theorem d_X10_standsAt_7 : decode cX10_standsAt 7 = .ok (.getfield 15, 3) := by decide +kernel
theorem d_X10_standsAt_10 : decode cX10_standsAt 10 = .ok (.if_icmp .le 5, 3) := by decide +kernel
theorem d_X10_standsAt_13 : decode cX10_standsAt 13 = .ok (.iconst 0, 1) := by decide +kernel
theorem d_X10_standsAt_14 : decode cX10_standsAt 14 = .ok (.ireturn, 1) := by decide +kernel
theorem d_X10_standsAt_15 : decode cX10_standsAt 15 = .ok (.iconst 0, 1) := by decide +kernel
theorem d_X10_standsAt_16 : decode cX10_standsAt 16 = .ok (.istore_n 3, 1) := by decide +kernel
theorem d_X10_standsAt_17 : decode cX10_standsAt 17 = .ok (.iload_n 3, 1) := by decide +kernel
theorem d_X10_standsAt_18 : decode cX10_standsAt 18 = .ok (.aload_n 2, 1) := by decide +kernel
theorem d_X10_standsAt_19 : decode cX10_standsAt 19 = .ok (.getfield 15, 3) := by decide +kernel
theorem d_X10_standsAt_22 : decode cX10_standsAt 22 = .ok (.if_icmp .ge 28, 3) := by decide +kernel
theorem d_X10_standsAt_25 : decode cX10_standsAt 25 = .ok (.aload_n 0, 1) := by decide +kernel
theorem d_X10_standsAt_26 : decode cX10_standsAt 26 = .ok (.getfield 9, 3) := by decide +kernel
theorem d_X10_standsAt_29 : decode cX10_standsAt 29 = .ok (.iload_n 1, 1) := by decide +kernel
theorem d_X10_standsAt_30 : decode cX10_standsAt 30 = .ok (.iload_n 3, 1) := by decide +kernel
theorem d_X10_standsAt_31 : decode cX10_standsAt 31 = .ok (.iadd, 1) := by decide +kernel
theorem d_X10_standsAt_32 : decode cX10_standsAt 32 = .ok (.iaload, 1) := by decide +kernel
theorem d_X10_standsAt_33 : decode cX10_standsAt 33 = .ok (.aload_n 2, 1) := by decide +kernel
theorem d_X10_standsAt_34 : decode cX10_standsAt 34 = .ok (.getfield 9, 3) := by decide +kernel
theorem d_X10_standsAt_37 : decode cX10_standsAt 37 = .ok (.iload_n 3, 1) := by decide +kernel
theorem d_X10_standsAt_38 : decode cX10_standsAt 38 = .ok (.iaload, 1) := by decide +kernel
theorem d_X10_standsAt_39 : decode cX10_standsAt 39 = .ok (.if_icmp .eq 5, 3) := by decide +kernel
theorem d_X10_standsAt_42 : decode cX10_standsAt 42 = .ok (.iconst 0, 1) := by decide +kernel
theorem d_X10_standsAt_43 : decode cX10_standsAt 43 = .ok (.ireturn, 1) := by decide +kernel
theorem d_X10_standsAt_44 : decode cX10_standsAt 44 = .ok (.iinc 3 1, 3) := by decide +kernel
theorem d_X10_standsAt_47 : decode cX10_standsAt 47 = .ok (.goto (-30), 3) := by decide +kernel
theorem d_X10_standsAt_50 : decode cX10_standsAt 50 = .ok (.iconst 1, 1) := by decide +kernel
theorem d_X10_standsAt_51 : decode cX10_standsAt 51 = .ok (.ireturn, 1) := by decide +kernel
set_option maxHeartbeats 4000000 in
set_option maxRecDepth 100000 in
theorem t_X10_standsAt_17 {X : XT_x} {G : GT_g} {z : Int} (C : Cx_ (K_X10_standsAt) X G) (hR : Rx_ X G (some .boolean)) (M : Mem_m) (x0 : Nat) (x1 : Int) (x2 : Nat) (o_x1 : ok_i x1) : ∀ (n : Nat) (x3 : Int) (o_x3 : ok_i x3), f_X10_standsAt_17 G.2.2.2 M x0 x1 x2 n x3 = some z → V_ (K_X10_standsAt) X G (Fq_ X G (Qi_ G M z)) M 17 [(0, .ref (G.1 + x0)), (1, iv_i x1), (2, .ref (G.1 + x2)), (3, iv_i x3)] [] := by
  intro n
  induction n with
  | zero => intro x3 o_x3 h; exact absurd h (by simp [f_X10_standsAt_17])
  | succ n ih =>
    intro x3 o_x3 h
    unfold f_X10_standsAt_17 at h
    refine V_iload_n (j := 3) C d_X10_standsAt_17 rfl rfl ?_
    refine V_aload_n (j := 2) C d_X10_standsAt_18 rfl rfl ?_
    refine V_getI C ck_10 fw_X10_15 d_X10_standsAt_19 h (fun v1 o1 h => ?_)
    refine V_icmp_ge (tgt := 50) C d_X10_standsAt_22 (by decide) o_x3 o1 h (fun h => ?_) (fun h => ?_)
    · skip
      refine V_aload_n (j := 0) C d_X10_standsAt_25 rfl rfl ?_
      refine V_getR C ck_10 fw_X10_9 d_X10_standsAt_26 h (fun v2 h => ?_)
      refine V_iload_n (j := 1) C d_X10_standsAt_29 rfl rfl ?_
      refine V_iload_n (j := 3) C d_X10_standsAt_30 rfl rfl ?_
      refine V_iadd C d_X10_standsAt_31 ?_
      refine V_iald C d_X10_standsAt_32 (ok_wr _) h (fun v3 o3 h => ?_)
      refine V_aload_n (j := 2) C d_X10_standsAt_33 rfl rfl ?_
      refine V_getR C ck_10 fw_X10_9 d_X10_standsAt_34 h (fun v4 h => ?_)
      refine V_iload_n (j := 3) C d_X10_standsAt_37 rfl rfl ?_
      refine V_iald C d_X10_standsAt_38 o_x3 h (fun v5 o5 h => ?_)
      refine V_icmp_eq (tgt := 44) C d_X10_standsAt_39 (by decide) o3 o5 h (fun h => ?_) (fun h => ?_)
      · skip
        refine V_iinc (j := 3) (lv' := [(3, iv_i (wr_i (x3 + 1))), (0, .ref (G.1 + x0)), (1, iv_i x1), (2, .ref (G.1 + x2))]) C d_X10_standsAt_44 rfl (by decide) rfl ?_
        refine V_goto (tgt := 17) C d_X10_standsAt_47 (by decide) ?_
        refine V_lv [1, 2, 3, 0] rfl (ih (wr_i (x3 + 1)) (ok_wr _) h)
      · skip
        refine V_iconst C d_X10_standsAt_42 ?_
        exact V_zret_r C hR d_X10_standsAt_43 (Or.inl rfl) h
    · skip
      refine V_iconst C d_X10_standsAt_50 ?_
      exact V_zret_r C hR d_X10_standsAt_51 (Or.inr rfl) h
set_option maxHeartbeats 4000000 in
set_option maxRecDepth 100000 in
theorem t_X10_standsAt {X : XT_x} {G : GT_g} {M : Mem_m} {z : Int} (C : Cx_ (K_X10_standsAt) X G) (hR : Rx_ X G (some .boolean)) (x0 : Nat) (x1 : Int) (x2 : Nat) (o_x1 : ok_i x1) (h : f_X10_standsAt G.2.2.2 M x0 x1 x2 = some z) : V_ (K_X10_standsAt) X G (Fq_ X G (Qi_ G M z)) M 0 [(0, .ref (G.1 + x0)), (1, iv_i x1), (2, .ref (G.1 + x2))] [] := by
  unfold f_X10_standsAt at h
  refine V_iload_n (j := 1) C d_X10_standsAt_0 rfl rfl ?_
  refine V_aload_n (j := 2) C d_X10_standsAt_1 rfl rfl ?_
  refine V_getI C ck_10 fw_X10_15 d_X10_standsAt_2 h (fun v1 o1 h => ?_)
  refine V_iadd C d_X10_standsAt_5 ?_
  refine V_aload_n (j := 0) C d_X10_standsAt_6 rfl rfl ?_
  refine V_getI C ck_10 fw_X10_15 d_X10_standsAt_7 h (fun v2 o2 h => ?_)
  refine V_icmp_le (tgt := 15) C d_X10_standsAt_10 (by decide) (ok_wr _) o2 h (fun h => ?_) (fun h => ?_)
  · skip
    refine V_iconst C d_X10_standsAt_15 ?_
    refine V_istore_n (lv' := [(3, iv_i 0), (0, .ref (G.1 + x0)), (1, iv_i x1), (2, .ref (G.1 + x2))]) C d_X10_standsAt_16 rfl (by decide) rfl ?_
    refine V_lv [1, 2, 3, 0] rfl (t_X10_standsAt_17 C hR M x0 x1 x2 o_x1 FU_ 0 (okc rfl) h)
  · skip
    refine V_iconst C d_X10_standsAt_13 ?_
    exact V_zret_r C hR d_X10_standsAt_14 (Or.inl rfl) h
set_option maxHeartbeats 4000000 in
set_option maxRecDepth 100000 in
theorem ct_X10_standsAt {l : Launch} {G : GT_g} {M : Mem_m} (x0 : Nat) (x1 : Int) (x2 : Nat) (o_x1 : ok_i x1) {z : Int} (h : f_X10_standsAt G.2.2.2 M x0 x1 x2 = some z) : MI_ l yX10_standsAt K_X10_standsAt (some .boolean) G M [.ref (G.1 + x0), iv_i x1, .ref (G.1 + x2)] M z :=
  met_of (by decide +kernel) rfl (Nat.le_of_ble_eq_true rfl) (fun X hl C hR => by subst hl; exact t_X10_standsAt C hR x0 x1 x2 o_x1 h)
theorem d_X2_findStanding_0 : decode cX2_findStanding 0 = .ok (.aload_n 0, 1) := by decide +kernel
theorem d_X2_findStanding_1 : decode cX2_findStanding 1 = .ok (.getfield 11, 3) := by decide +kernel
theorem d_X2_findStanding_4 : decode cX2_findStanding 4 = .ok (.iconst 0, 1) := by decide +kernel
theorem d_X2_findStanding_5 : decode cX2_findStanding 5 = .ok (.invokestatic 56, 3) := by decide +kernel
theorem d_X2_findStanding_8 : decode cX2_findStanding 8 = .ok (.iconst 0, 1) := by decide +kernel
theorem d_X2_findStanding_9 : decode cX2_findStanding 9 = .ok (.istore_n 3, 1) := by decide +kernel
theorem d_X2_findStanding_10 : decode cX2_findStanding 10 = .ok (.iconst 0, 1) := by decide +kernel
theorem d_X2_findStanding_11 : decode cX2_findStanding 11 = .ok (.istore 4, 2) := by decide +kernel
theorem d_X2_findStanding_13 : decode cX2_findStanding 13 = .ok (.iload 4, 2) := by decide +kernel
theorem d_X2_findStanding_15 : decode cX2_findStanding 15 = .ok (.aload_n 1, 1) := by decide +kernel
theorem d_X2_findStanding_16 : decode cX2_findStanding 16 = .ok (.getfield 62, 3) := by decide +kernel
theorem d_X2_findStanding_19 : decode cX2_findStanding 19 = .ok (.if_icmp .ge 80, 3) := by decide +kernel
theorem d_X2_findStanding_22 : decode cX2_findStanding 22 = .ok (.aload_n 1, 1) := by decide +kernel
theorem d_X2_findStanding_23 : decode cX2_findStanding 23 = .ok (.getfield 65, 3) := by decide +kernel
theorem d_X2_findStanding_26 : decode cX2_findStanding 26 = .ok (.iload 4, 2) := by decide +kernel
theorem d_X2_findStanding_28 : decode cX2_findStanding 28 = .ok (.aaload, 1) := by decide +kernel
theorem d_X2_findStanding_29 : decode cX2_findStanding 29 = .ok (.getfield 69, 3) := by decide +kernel
theorem d_X2_findStanding_32 : decode cX2_findStanding 32 = .ok (.astore 5, 2) := by decide +kernel
theorem d_X2_findStanding_34 : decode cX2_findStanding 34 = .ok (.iconst 0, 1) := by decide +kernel
theorem d_X2_findStanding_35 : decode cX2_findStanding 35 = .ok (.istore 6, 2) := by decide +kernel
theorem d_X2_findStanding_37 : decode cX2_findStanding 37 = .ok (.iload 6, 2) := by decide +kernel
theorem d_X2_findStanding_39 : decode cX2_findStanding 39 = .ok (.aload_n 2, 1) := by decide +kernel
theorem d_X2_findStanding_40 : decode cX2_findStanding 40 = .ok (.getfield 37, 3) := by decide +kernel
theorem d_X2_findStanding_43 : decode cX2_findStanding 43 = .ok (.if_icmp .ge 50, 3) := by decide +kernel
theorem d_X2_findStanding_46 : decode cX2_findStanding 46 = .ok (.aload_n 2, 1) := by decide +kernel
theorem d_X2_findStanding_47 : decode cX2_findStanding 47 = .ok (.iload 6, 2) := by decide +kernel
theorem d_X2_findStanding_49 : decode cX2_findStanding 49 = .ok (.aload 5, 2) := by decide +kernel
theorem d_X2_findStanding_51 : decode cX2_findStanding 51 = .ok (.invokevirtual 74, 3) := by decide +kernel
theorem d_X2_findStanding_54 : decode cX2_findStanding 54 = .ok (.ifCond .eq 33, 3) := by decide +kernel
theorem d_X2_findStanding_57 : decode cX2_findStanding 57 = .ok (.aload_n 0, 1) := by decide +kernel
theorem d_X2_findStanding_58 : decode cX2_findStanding 58 = .ok (.getfield 11, 3) := by decide +kernel
theorem d_X2_findStanding_61 : decode cX2_findStanding 61 = .ok (.iload 6, 2) := by decide +kernel
theorem d_X2_findStanding_63 : decode cX2_findStanding 63 = .ok (.bipush 9, 2) := by decide +kernel
theorem d_X2_findStanding_65 : decode cX2_findStanding 65 = .ok (.imul, 1) := by decide +kernel
theorem d_X2_findStanding_66 : decode cX2_findStanding 66 = .ok (.aload 5, 2) := by decide +kernel
theorem d_X2_findStanding_68 : decode cX2_findStanding 68 = .ok (.getfield 37, 3) := by decide +kernel
theorem d_X2_findStanding_71 : decode cX2_findStanding 71 = .ok (.iadd, 1) := by decide +kernel
theorem d_X2_findStanding_72 : decode cX2_findStanding 72 = .ok (.dup2, 1) := by decide +kernel
theorem d_X2_findStanding_73 : decode cX2_findStanding 73 = .ok (.iaload, 1) := by decide +kernel
theorem d_X2_findStanding_74 : decode cX2_findStanding 74 = .ok (.iconst 1, 1) := by decide +kernel
theorem d_X2_findStanding_75 : decode cX2_findStanding 75 = .ok (.iload 4, 2) := by decide +kernel
theorem d_X2_findStanding_77 : decode cX2_findStanding 77 = .ok (.ishl, 1) := by decide +kernel
theorem d_X2_findStanding_78 : decode cX2_findStanding 78 = .ok (.ior, 1) := by decide +kernel
theorem d_X2_findStanding_79 : decode cX2_findStanding 79 = .ok (.iastore, 1) := by decide +kernel
theorem d_X2_findStanding_80 : decode cX2_findStanding 80 = .ok (.iload_n 3, 1) := by decide +kernel
theorem d_X2_findStanding_81 : decode cX2_findStanding 81 = .ok (.iconst 1, 1) := by decide +kernel
theorem d_X2_findStanding_82 : decode cX2_findStanding 82 = .ok (.iload 4, 2) := by decide +kernel
theorem d_X2_findStanding_84 : decode cX2_findStanding 84 = .ok (.ishl, 1) := by decide +kernel
theorem d_X2_findStanding_85 : decode cX2_findStanding 85 = .ok (.ior, 1) := by decide +kernel
theorem d_X2_findStanding_86 : decode cX2_findStanding 86 = .ok (.istore_n 3, 1) := by decide +kernel
theorem d_X2_findStanding_87 : decode cX2_findStanding 87 = .ok (.iinc 6 1, 3) := by decide +kernel
theorem d_X2_findStanding_90 : decode cX2_findStanding 90 = .ok (.goto (-53), 3) := by decide +kernel
theorem d_X2_findStanding_93 : decode cX2_findStanding 93 = .ok (.iinc 4 1, 3) := by decide +kernel
theorem d_X2_findStanding_96 : decode cX2_findStanding 96 = .ok (.goto (-83), 3) := by decide +kernel
theorem d_X2_findStanding_99 : decode cX2_findStanding 99 = .ok (.iload_n 3, 1) := by decide +kernel
theorem d_X2_findStanding_100 : decode cX2_findStanding 100 = .ok (.ireturn, 1) := by decide +kernel
set_option maxHeartbeats 4000000 in
set_option maxRecDepth 100000 in
theorem t_X2_findStanding_37 {X : XT_x} {G : GT_g} {z : (Mem_m × Int)} (C : Cx_ (K_X2_findStanding) X G) (hR : Rx_ X G (some .int)) (x0 : Nat) (x1 : Nat) (x2 : Nat) (x4 : Int) (x5 : Nat) (o_x4 : ok_i x4) (k_13 : Mem_m → Int → Int → Option (Mem_m × Int)) (hk_13 : ∀ (M : Mem_m) (x3 : Int) (x4 : Int) (o_x3 : ok_i x3) (o_x4 : ok_i x4), k_13 M x3 x4 = some z → V_ (K_X2_findStanding) X G (Fq_ X G (Qi_ G z.1 z.2)) M 13 [(0, .ref (G.1 + x0)), (1, .ref (G.1 + x1)), (2, .ref (G.1 + x2)), (3, iv_i x3), (4, iv_i x4)] []) : ∀ (n : Nat) (M : Mem_m) (x3 : Int) (x6 : Int) (o_x3 : ok_i x3) (o_x6 : ok_i x6), f_X2_findStanding_37 G.2.2.2 k_13 x0 x1 x2 x4 x5 n M x3 x6 = some z → V_ (K_X2_findStanding) X G (Fq_ X G (Qi_ G z.1 z.2)) M 37 [(0, .ref (G.1 + x0)), (1, .ref (G.1 + x1)), (2, .ref (G.1 + x2)), (3, iv_i x3), (4, iv_i x4), (5, .ref (G.1 + x5)), (6, iv_i x6)] [] := by
  intro n
  induction n with
  | zero => intro M x3 x6 o_x3 o_x6 h; exact absurd h (by simp [f_X2_findStanding_37])
  | succ n ih =>
    intro M x3 x6 o_x3 o_x6 h
    unfold f_X2_findStanding_37 at h
    refine V_iload (j := 6) C d_X2_findStanding_37 rfl ?_
    refine V_aload_n (j := 2) C d_X2_findStanding_39 rfl rfl ?_
    refine V_getI C ck_10 fw_X2_37 d_X2_findStanding_40 h (fun v1 o1 h => ?_)
    refine V_icmp_ge (tgt := 93) C d_X2_findStanding_43 (by decide) o_x6 o1 h (fun h => ?_) (fun h => ?_)
    · skip
      refine V_aload_n (j := 2) C d_X2_findStanding_46 rfl rfl ?_
      refine V_iload (j := 6) C d_X2_findStanding_47 rfl ?_
      refine V_aload (j := 5) C d_X2_findStanding_49 rfl ?_
      refine V_callVri (K' := K_X10_standsAt) (a := x2) (ci := 10) (av := [iv_i x6, .ref (G.1 + x5)]) (rest := []) yi_X10_standsAt (by decide) rfl C (yk_X10_standsAt) l1_X2_74 (by decide) d_X2_findStanding_51 (fun v hv => ct_X10_standsAt x2 x6 x5 o_x6 hv) rfl rfl (Nat.le_of_ble_eq_true rfl) h (fun v2 o2 h => ?_)
      refine V_if_eq (tgt := 87) C d_X2_findStanding_54 (by decide) o2 h (fun h => ?_) (fun h => ?_)
      · skip
        refine V_iinc (j := 6) (lv' := [(6, iv_i (wr_i (x6 + 1))), (0, .ref (G.1 + x0)), (1, .ref (G.1 + x1)), (2, .ref (G.1 + x2)), (3, iv_i x3), (4, iv_i x4), (5, .ref (G.1 + x5))]) C d_X2_findStanding_87 rfl (by decide) rfl ?_
        refine V_goto (tgt := 37) C d_X2_findStanding_90 (by decide) ?_
        refine V_lv [1, 2, 3, 4, 5, 6, 0] rfl (ih M x3 (wr_i (x6 + 1)) o_x3 (ok_wr _) h)
      · skip
        refine V_aload_n (j := 0) C d_X2_findStanding_57 rfl rfl ?_
        refine V_getR C ck_2 fw_X2_11 d_X2_findStanding_58 h (fun v3 h => ?_)
        refine V_iload (j := 6) C d_X2_findStanding_61 rfl ?_
        refine V_bipush (v := 9) C d_X2_findStanding_63 rfl ?_
        refine V_imul C d_X2_findStanding_65 ?_
        refine V_aload (j := 5) C d_X2_findStanding_66 rfl ?_
        refine V_getI C ck_10 fw_X2_37 d_X2_findStanding_68 h (fun v4 o4 h => ?_)
        refine V_iadd C d_X2_findStanding_71 ?_
        refine V_dup2 C d_X2_findStanding_72 rfl rfl ?_
        refine V_iald C d_X2_findStanding_73 (ok_wr _) h (fun v5 o5 h => ?_)
        refine V_iconst C d_X2_findStanding_74 ?_
        refine V_iload (j := 4) C d_X2_findStanding_75 rfl ?_
        refine V_ishl C d_X2_findStanding_77 ?_
        refine V_ior C d_X2_findStanding_78 ?_
        refine V_iast C d_X2_findStanding_79 (ok_wr _) (ok_I _) h (fun M6 h => ?_)
        refine V_iload_n (j := 3) C d_X2_findStanding_80 rfl rfl ?_
        refine V_iconst C d_X2_findStanding_81 ?_
        refine V_iload (j := 4) C d_X2_findStanding_82 rfl ?_
        refine V_ishl C d_X2_findStanding_84 ?_
        refine V_ior C d_X2_findStanding_85 ?_
        refine V_istore_n (lv' := [(3, iv_i (or_i x3 (sl_i 1 x4))), (0, .ref (G.1 + x0)), (1, .ref (G.1 + x1)), (2, .ref (G.1 + x2)), (4, iv_i x4), (5, .ref (G.1 + x5)), (6, iv_i x6)]) C d_X2_findStanding_86 rfl (by decide) rfl ?_
        refine V_iinc (j := 6) (lv' := [(6, iv_i (wr_i (x6 + 1))), (3, iv_i (or_i x3 (sl_i 1 x4))), (0, .ref (G.1 + x0)), (1, .ref (G.1 + x1)), (2, .ref (G.1 + x2)), (4, iv_i x4), (5, .ref (G.1 + x5))]) C d_X2_findStanding_87 rfl (by decide) rfl ?_
        refine V_goto (tgt := 37) C d_X2_findStanding_90 (by decide) ?_
        refine V_lv [2, 3, 4, 1, 5, 6, 0] rfl (ih M6 (or_i x3 (sl_i 1 x4)) (wr_i (x6 + 1)) (ok_I _) (ok_wr _) h)
    · skip
      refine V_iinc (j := 4) (lv' := [(4, iv_i (wr_i (x4 + 1))), (0, .ref (G.1 + x0)), (1, .ref (G.1 + x1)), (2, .ref (G.1 + x2)), (3, iv_i x3), (5, .ref (G.1 + x5)), (6, iv_i x6)]) C d_X2_findStanding_93 rfl (by decide) rfl ?_
      refine V_goto (tgt := 13) C d_X2_findStanding_96 (by decide) ?_
      refine V_lv [1, 2, 3, 4, 0] rfl (hk_13 M x3 (wr_i (x4 + 1)) o_x3 (ok_wr _) h)
set_option maxHeartbeats 4000000 in
set_option maxRecDepth 100000 in
theorem t_X2_findStanding_13 {X : XT_x} {G : GT_g} {z : (Mem_m × Int)} (C : Cx_ (K_X2_findStanding) X G) (hR : Rx_ X G (some .int)) (x0 : Nat) (x1 : Nat) (x2 : Nat) : ∀ (n : Nat) (M : Mem_m) (x3 : Int) (x4 : Int) (o_x3 : ok_i x3) (o_x4 : ok_i x4), f_X2_findStanding_13 G.2.2.2 x0 x1 x2 n M x3 x4 = some z → V_ (K_X2_findStanding) X G (Fq_ X G (Qi_ G z.1 z.2)) M 13 [(0, .ref (G.1 + x0)), (1, .ref (G.1 + x1)), (2, .ref (G.1 + x2)), (3, iv_i x3), (4, iv_i x4)] [] := by
  intro n
  induction n with
  | zero => intro M x3 x4 o_x3 o_x4 h; exact absurd h (by simp [f_X2_findStanding_13])
  | succ n ih =>
    intro M x3 x4 o_x3 o_x4 h
    unfold f_X2_findStanding_13 at h
    refine V_iload (j := 4) C d_X2_findStanding_13 rfl ?_
    refine V_aload_n (j := 1) C d_X2_findStanding_15 rfl rfl ?_
    refine V_getI C ck_0 fw_X2_62 d_X2_findStanding_16 h (fun v1 o1 h => ?_)
    refine V_icmp_ge (tgt := 99) C d_X2_findStanding_19 (by decide) o_x4 o1 h (fun h => ?_) (fun h => ?_)
    · skip
      refine V_aload_n (j := 1) C d_X2_findStanding_22 rfl rfl ?_
      refine V_getR C ck_0 fw_X2_65 d_X2_findStanding_23 h (fun v2 h => ?_)
      refine V_iload (j := 4) C d_X2_findStanding_26 rfl ?_
      refine V_aald (t := 1) C tc_1 d_X2_findStanding_28 o_x4 h (fun v3 h => ?_)
      refine V_getR C ck_5 fw_X2_69 d_X2_findStanding_29 h (fun v4 h => ?_)
      refine V_astore (lv' := [(5, .ref (G.1 + v4)), (0, .ref (G.1 + x0)), (1, .ref (G.1 + x1)), (2, .ref (G.1 + x2)), (3, iv_i x3), (4, iv_i x4)]) C d_X2_findStanding_32 (by decide) rfl ?_
      refine V_iconst C d_X2_findStanding_34 ?_
      refine V_istore (lv' := [(6, iv_i 0), (5, .ref (G.1 + v4)), (0, .ref (G.1 + x0)), (1, .ref (G.1 + x1)), (2, .ref (G.1 + x2)), (3, iv_i x3), (4, iv_i x4)]) C d_X2_findStanding_35 (by decide) rfl ?_
      refine V_lv [2, 3, 4, 5, 6, 1, 0] rfl (t_X2_findStanding_37 C hR x0 x1 x2 x4 v4 o_x4 (fun M x3 x4 => f_X2_findStanding_13 G.2.2.2 x0 x1 x2 n M x3 x4) (fun M x3 x4 o_x3 o_x4 h9 => ih M x3 x4 o_x3 o_x4 h9) FU_ M x3 0 o_x3 (okc rfl) h)
    · skip
      refine V_iload_n (j := 3) C d_X2_findStanding_99 rfl rfl ?_
      exact V_iret_w C hR d_X2_findStanding_100 o_x3 h
set_option maxHeartbeats 4000000 in
set_option maxRecDepth 100000 in
theorem t_X2_findStanding {X : XT_x} {G : GT_g} {M : Mem_m} {z : (Mem_m × Int)} (C : Cx_ (K_X2_findStanding) X G) (hR : Rx_ X G (some .int)) (x0 : Nat) (x1 : Nat) (x2 : Nat)  (h : f_X2_findStanding G.2.2.2 M x0 x1 x2 = some z) : V_ (K_X2_findStanding) X G (Fq_ X G (Qi_ G z.1 z.2)) M 0 [(0, .ref (G.1 + x0)), (1, .ref (G.1 + x1)), (2, .ref (G.1 + x2))] [] := by
  unfold f_X2_findStanding at h
  refine V_aload_n (j := 0) C d_X2_findStanding_0 rfl rfl ?_
  refine V_getR C ck_2 fw_X2_11 d_X2_findStanding_1 h (fun v1 h => ?_)
  refine V_iconst C d_X2_findStanding_4 ?_
  refine V_callSwv (K' := K_J7_fill_53178) (av := [.ref (G.1 + v1), iv_i 0]) (rest := []) ys_J7_fill_53178 C (yk_J7_fill_53178) l1_X2_56 (by decide) d_X2_findStanding_5 (fun v hv => ct_J7_fill_53178 v1 0 (okc rfl) hv) rfl rfl (Nat.le_of_ble_eq_true rfl) h (fun M2 h => ?_)
  refine V_iconst C d_X2_findStanding_8 ?_
  refine V_istore_n (lv' := [(3, iv_i 0), (0, .ref (G.1 + x0)), (1, .ref (G.1 + x1)), (2, .ref (G.1 + x2))]) C d_X2_findStanding_9 rfl (by decide) rfl ?_
  refine V_iconst C d_X2_findStanding_10 ?_
  refine V_istore (lv' := [(4, iv_i 0), (3, iv_i 0), (0, .ref (G.1 + x0)), (1, .ref (G.1 + x1)), (2, .ref (G.1 + x2))]) C d_X2_findStanding_11 (by decide) rfl ?_
  refine V_lv [2, 3, 4, 1, 0] rfl (t_X2_findStanding_13 C hR x0 x1 x2 FU_ M2 0 0 (okc rfl) (okc rfl) h)
set_option maxHeartbeats 4000000 in
set_option maxRecDepth 100000 in
theorem ct_X2_findStanding {l : Launch} {G : GT_g} {M : Mem_m} (x0 : Nat) (x1 : Nat) (x2 : Nat)  {z : (Mem_m × Int)} (h : f_X2_findStanding G.2.2.2 M x0 x1 x2 = some z) : MI_ l yX2_findStanding K_X2_findStanding (some .int) G M [.ref (G.1 + x0), .ref (G.1 + x1), .ref (G.1 + x2)] z.1 z.2 :=
  met_of (by decide +kernel) rfl (Nat.le_of_ble_eq_true rfl) (fun X hl C hR => by subst hl; exact t_X2_findStanding C hR x0 x1 x2  h)
theorem d_X2_leastCost_0 : decode cX2_leastCost 0 = .ok (.aload_n 0, 1) := by decide +kernel
theorem d_X2_leastCost_1 : decode cX2_leastCost 1 = .ok (.getfield 15, 3) := by decide +kernel
theorem d_X2_leastCost_4 : decode cX2_leastCost 4 = .ok (.iload_n 1, 1) := by decide +kernel
theorem d_X2_leastCost_5 : decode cX2_leastCost 5 = .ok (.iconst 0, 1) := by decide +kernel
theorem d_X2_leastCost_6 : decode cX2_leastCost 6 = .ok (.iastore, 1) := by decide +kernel
theorem d_X2_leastCost_7 : decode cX2_leastCost 7 = .ok (.iload_n 1, 1) := by decide +kernel
theorem d_X2_leastCost_8 : decode cX2_leastCost 8 = .ok (.iconst 1, 1) := by decide +kernel
theorem d_X2_leastCost_9 : decode cX2_leastCost 9 = .ok (.isub, 1) := by decide +kernel
theorem d_X2_leastCost_10 : decode cX2_leastCost 10 = .ok (.istore_n 3, 1) := by decide +kernel
theorem d_X2_leastCost_11 : decode cX2_leastCost 11 = .ok (.iload_n 3, 1) := by decide +kernel
theorem d_X2_leastCost_12 : decode cX2_leastCost 12 = .ok (.ifCond .lt 81, 3) := by decide +kernel
theorem d_X2_leastCost_15 : decode cX2_leastCost 15 = .ok (.aload_n 0, 1) := by decide +kernel
theorem d_X2_leastCost_16 : decode cX2_leastCost 16 = .ok (.getfield 15, 3) := by decide +kernel
theorem d_X2_leastCost_19 : decode cX2_leastCost 19 = .ok (.iload_n 3, 1) := by decide +kernel
theorem d_X2_leastCost_20 : decode cX2_leastCost 20 = .ok (.iconst 1, 1) := by decide +kernel
theorem d_X2_leastCost_21 : decode cX2_leastCost 21 = .ok (.iadd, 1) := by decide +kernel
theorem d_X2_leastCost_22 : decode cX2_leastCost 22 = .ok (.iaload, 1) := by decide +kernel
theorem d_X2_leastCost_23 : decode cX2_leastCost 23 = .ok (.iconst 5, 1) := by decide +kernel
theorem d_X2_leastCost_24 : decode cX2_leastCost 24 = .ok (.iadd, 1) := by decide +kernel
theorem d_X2_leastCost_25 : decode cX2_leastCost 25 = .ok (.istore 4, 2) := by decide +kernel
theorem d_X2_leastCost_27 : decode cX2_leastCost 27 = .ok (.iconst 1, 1) := by decide +kernel
theorem d_X2_leastCost_28 : decode cX2_leastCost 28 = .ok (.istore 5, 2) := by decide +kernel
theorem d_X2_leastCost_30 : decode cX2_leastCost 30 = .ok (.iload_n 3, 1) := by decide +kernel
theorem d_X2_leastCost_31 : decode cX2_leastCost 31 = .ok (.iload 5, 2) := by decide +kernel
theorem d_X2_leastCost_33 : decode cX2_leastCost 33 = .ok (.iadd, 1) := by decide +kernel
theorem d_X2_leastCost_34 : decode cX2_leastCost 34 = .ok (.iload_n 1, 1) := by decide +kernel
theorem d_X2_leastCost_35 : decode cX2_leastCost 35 = .ok (.if_icmp .gt 44, 3) := by decide +kernel
theorem d_X2_leastCost_38 : decode cX2_leastCost 38 = .ok (.aload_n 0, 1) := by decide +kernel
theorem d_X2_leastCost_39 : decode cX2_leastCost 39 = .ok (.getfield 11, 3) := by decide +kernel
theorem d_X2_leastCost_42 : decode cX2_leastCost 42 = .ok (.iload_n 3, 1) := by decide +kernel
theorem d_X2_leastCost_43 : decode cX2_leastCost 43 = .ok (.bipush 9, 2) := by decide +kernel
theorem d_X2_leastCost_45 : decode cX2_leastCost 45 = .ok (.imul, 1) := by decide +kernel
theorem d_X2_leastCost_46 : decode cX2_leastCost 46 = .ok (.iload 5, 2) := by decide +kernel
theorem d_X2_leastCost_48 : decode cX2_leastCost 48 = .ok (.iadd, 1) := by decide +kernel
theorem d_X2_leastCost_49 : decode cX2_leastCost 49 = .ok (.iaload, 1) := by decide +kernel
theorem d_X2_leastCost_50 : decode cX2_leastCost 50 = .ok (.iload_n 2, 1) := by decide +kernel
theorem d_X2_leastCost_51 : decode cX2_leastCost 51 = .ok (.iand, 1) := by decide +kernel
theorem d_X2_leastCost_52 : decode cX2_leastCost 52 = .ok (.ifCond .eq 21, 3) := by decide +kernel
theorem d_X2_leastCost_55 : decode cX2_leastCost 55 = .ok (.iload 4, 2) := by decide +kernel
theorem d_X2_leastCost_57 : decode cX2_leastCost 57 = .ok (.aload_n 0, 1) := by decide +kernel
theorem d_X2_leastCost_58 : decode cX2_leastCost 58 = .ok (.getfield 15, 3) := by decide +kernel
theorem d_X2_leastCost_61 : decode cX2_leastCost 61 = .ok (.iload_n 3, 1) := by decide +kernel
theorem d_X2_leastCost_62 : decode cX2_leastCost 62 = .ok (.iload 5, 2) := by decide +kernel
theorem d_X2_leastCost_64 : decode cX2_leastCost 64 = .ok (.iadd, 1) := by decide +kernel
theorem d_X2_leastCost_65 : decode cX2_leastCost 65 = .ok (.iaload, 1) := by decide +kernel
theorem d_X2_leastCost_66 : decode cX2_leastCost 66 = .ok (.iconst 2, 1) := by decide +kernel
theorem d_X2_leastCost_67 : decode cX2_leastCost 67 = .ok (.iadd, 1) := by decide +kernel
theorem d_X2_leastCost_68 : decode cX2_leastCost 68 = .ok (.invokestatic 78, 3) := by decide +kernel
theorem d_X2_leastCost_71 : decode cX2_leastCost 71 = .ok (.istore 4, 2) := by decide +kernel
theorem d_X2_leastCost_73 : decode cX2_leastCost 73 = .ok (.iinc 5 1, 3) := by decide +kernel
theorem d_X2_leastCost_76 : decode cX2_leastCost 76 = .ok (.goto (-46), 3) := by decide +kernel
theorem d_X2_leastCost_79 : decode cX2_leastCost 79 = .ok (.aload_n 0, 1) := by decide +kernel
theorem d_X2_leastCost_80 : decode cX2_leastCost 80 = .ok (.getfield 15, 3) := by decide +kernel
theorem d_X2_leastCost_83 : decode cX2_leastCost 83 = .ok (.iload_n 3, 1) := by decide +kernel
theorem d_X2_leastCost_84 : decode cX2_leastCost 84 = .ok (.iload 4, 2) := by decide +kernel
theorem d_X2_leastCost_86 : decode cX2_leastCost 86 = .ok (.iastore, 1) := by decide +kernel
theorem d_X2_leastCost_87 : decode cX2_leastCost 87 = .ok (.iinc 3 (-1), 3) := by decide +kernel
theorem d_X2_leastCost_90 : decode cX2_leastCost 90 = .ok (.goto (-79), 3) := by decide +kernel
theorem d_X2_leastCost_93 : decode cX2_leastCost 93 = .ok (.aload_n 0, 1) := by decide +kernel
theorem d_X2_leastCost_94 : decode cX2_leastCost 94 = .ok (.getfield 15, 3) := by decide +kernel
theorem d_X2_leastCost_97 : decode cX2_leastCost 97 = .ok (.iconst 0, 1) := by decide +kernel
theorem d_X2_leastCost_98 : decode cX2_leastCost 98 = .ok (.iaload, 1) := by decide +kernel
theorem d_X2_leastCost_99 : decode cX2_leastCost 99 = .ok (.ireturn, 1) := by decide +kernel
set_option maxHeartbeats 4000000 in
set_option maxRecDepth 100000 in
theorem t_X2_leastCost_30 {X : XT_x} {G : GT_g} {z : (Mem_m × Int)} (C : Cx_ (K_X2_leastCost) X G) (hR : Rx_ X G (some .int)) (M : Mem_m) (x0 : Nat) (x1 : Int) (x2 : Int) (x3 : Int) (o_x1 : ok_i x1) (o_x2 : ok_i x2) (o_x3 : ok_i x3) (k_11 : Mem_m → Int → Option (Mem_m × Int)) (hk_11 : ∀ (M : Mem_m) (x3 : Int) (o_x3 : ok_i x3), k_11 M x3 = some z → V_ (K_X2_leastCost) X G (Fq_ X G (Qi_ G z.1 z.2)) M 11 [(0, .ref (G.1 + x0)), (1, iv_i x1), (2, iv_i x2), (3, iv_i x3)] []) : ∀ (n : Nat) (x4 : Int) (x5 : Int) (o_x4 : ok_i x4) (o_x5 : ok_i x5), f_X2_leastCost_30 G.2.2.2 k_11 M x0 x1 x2 x3 n x4 x5 = some z → V_ (K_X2_leastCost) X G (Fq_ X G (Qi_ G z.1 z.2)) M 30 [(0, .ref (G.1 + x0)), (1, iv_i x1), (2, iv_i x2), (3, iv_i x3), (4, iv_i x4), (5, iv_i x5)] [] := by
  intro n
  induction n with
  | zero => intro x4 x5 o_x4 o_x5 h; exact absurd h (by simp [f_X2_leastCost_30])
  | succ n ih =>
    intro x4 x5 o_x4 o_x5 h
    unfold f_X2_leastCost_30 at h
    refine V_iload_n (j := 3) C d_X2_leastCost_30 rfl rfl ?_
    refine V_iload (j := 5) C d_X2_leastCost_31 rfl ?_
    refine V_iadd C d_X2_leastCost_33 ?_
    refine V_iload_n (j := 1) C d_X2_leastCost_34 rfl rfl ?_
    refine V_icmp_gt (tgt := 79) C d_X2_leastCost_35 (by decide) (ok_wr _) o_x1 h (fun h => ?_) (fun h => ?_)
    · skip
      refine V_aload_n (j := 0) C d_X2_leastCost_38 rfl rfl ?_
      refine V_getR C ck_2 fw_X2_11 d_X2_leastCost_39 h (fun v1 h => ?_)
      refine V_iload_n (j := 3) C d_X2_leastCost_42 rfl rfl ?_
      refine V_bipush (v := 9) C d_X2_leastCost_43 rfl ?_
      refine V_imul C d_X2_leastCost_45 ?_
      refine V_iload (j := 5) C d_X2_leastCost_46 rfl ?_
      refine V_iadd C d_X2_leastCost_48 ?_
      refine V_iald C d_X2_leastCost_49 (ok_wr _) h (fun v2 o2 h => ?_)
      refine V_iload_n (j := 2) C d_X2_leastCost_50 rfl rfl ?_
      refine V_iand C d_X2_leastCost_51 ?_
      refine V_if_eq (tgt := 73) C d_X2_leastCost_52 (by decide) (ok_I _) h (fun h => ?_) (fun h => ?_)
      · skip
        refine V_iinc (j := 5) (lv' := [(5, iv_i (wr_i (x5 + 1))), (0, .ref (G.1 + x0)), (1, iv_i x1), (2, iv_i x2), (3, iv_i x3), (4, iv_i x4)]) C d_X2_leastCost_73 rfl (by decide) rfl ?_
        refine V_goto (tgt := 30) C d_X2_leastCost_76 (by decide) ?_
        refine V_lv [1, 2, 3, 4, 5, 0] rfl (ih x4 (wr_i (x5 + 1)) o_x4 (ok_wr _) h)
      · skip
        refine V_iload (j := 4) C d_X2_leastCost_55 rfl ?_
        refine V_aload_n (j := 0) C d_X2_leastCost_57 rfl rfl ?_
        refine V_getR C ck_2 fw_X2_15 d_X2_leastCost_58 h (fun v3 h => ?_)
        refine V_iload_n (j := 3) C d_X2_leastCost_61 rfl rfl ?_
        refine V_iload (j := 5) C d_X2_leastCost_62 rfl ?_
        refine V_iadd C d_X2_leastCost_64 ?_
        refine V_iald C d_X2_leastCost_65 (ok_wr _) h (fun v4 o4 h => ?_)
        refine V_iconst C d_X2_leastCost_66 ?_
        refine V_iadd C d_X2_leastCost_67 ?_
        refine V_mmin C l1_X2_78 mm_min (by decide) (Nat.le_of_ble_eq_true rfl) d_X2_leastCost_68 o_x4 (ok_wr _) ?_
        refine V_istore (lv' := [(4, iv_i (min x4 (wr_i (v4 + 2)))), (0, .ref (G.1 + x0)), (1, iv_i x1), (2, iv_i x2), (3, iv_i x3), (5, iv_i x5)]) C d_X2_leastCost_71 (by decide) rfl ?_
        refine V_iinc (j := 5) (lv' := [(5, iv_i (wr_i (x5 + 1))), (4, iv_i (min x4 (wr_i (v4 + 2)))), (0, .ref (G.1 + x0)), (1, iv_i x1), (2, iv_i x2), (3, iv_i x3)]) C d_X2_leastCost_73 rfl (by decide) rfl ?_
        refine V_goto (tgt := 30) C d_X2_leastCost_76 (by decide) ?_
        refine V_lv [2, 3, 4, 5, 1, 0] rfl (ih (min x4 (wr_i (v4 + 2))) (wr_i (x5 + 1)) (ok_min o_x4 (ok_wr _)) (ok_wr _) h)
    · skip
      refine V_aload_n (j := 0) C d_X2_leastCost_79 rfl rfl ?_
      refine V_getR C ck_2 fw_X2_15 d_X2_leastCost_80 h (fun v6 h => ?_)
      refine V_iload_n (j := 3) C d_X2_leastCost_83 rfl rfl ?_
      refine V_iload (j := 4) C d_X2_leastCost_84 rfl ?_
      refine V_iast C d_X2_leastCost_86 o_x3 o_x4 h (fun M7 h => ?_)
      refine V_iinc (j := 3) (lv' := [(3, iv_i (wr_i (x3 + (-1)))), (0, .ref (G.1 + x0)), (1, iv_i x1), (2, iv_i x2), (4, iv_i x4), (5, iv_i x5)]) C d_X2_leastCost_87 rfl (by decide) rfl ?_
      refine V_goto (tgt := 11) C d_X2_leastCost_90 (by decide) ?_
      refine V_lv [1, 2, 3, 0] rfl (hk_11 M7 (wr_i (x3 + (-1))) (ok_wr _) h)
set_option maxHeartbeats 4000000 in
set_option maxRecDepth 100000 in
theorem t_X2_leastCost_11 {X : XT_x} {G : GT_g} {z : (Mem_m × Int)} (C : Cx_ (K_X2_leastCost) X G) (hR : Rx_ X G (some .int)) (x0 : Nat) (x1 : Int) (x2 : Int) (o_x1 : ok_i x1) (o_x2 : ok_i x2) : ∀ (n : Nat) (M : Mem_m) (x3 : Int) (o_x3 : ok_i x3), f_X2_leastCost_11 G.2.2.2 x0 x1 x2 n M x3 = some z → V_ (K_X2_leastCost) X G (Fq_ X G (Qi_ G z.1 z.2)) M 11 [(0, .ref (G.1 + x0)), (1, iv_i x1), (2, iv_i x2), (3, iv_i x3)] [] := by
  intro n
  induction n with
  | zero => intro M x3 o_x3 h; exact absurd h (by simp [f_X2_leastCost_11])
  | succ n ih =>
    intro M x3 o_x3 h
    unfold f_X2_leastCost_11 at h
    refine V_iload_n (j := 3) C d_X2_leastCost_11 rfl rfl ?_
    refine V_if_lt (tgt := 93) C d_X2_leastCost_12 (by decide) o_x3 h (fun h => ?_) (fun h => ?_)
    · skip
      refine V_aload_n (j := 0) C d_X2_leastCost_93 rfl rfl ?_
      refine V_getR C ck_2 fw_X2_15 d_X2_leastCost_94 h (fun v1 h => ?_)
      refine V_iconst C d_X2_leastCost_97 ?_
      refine V_iald C d_X2_leastCost_98 (okc rfl) h (fun v2 o2 h => ?_)
      exact V_iret_w C hR d_X2_leastCost_99 o2 h
    · skip
      refine V_aload_n (j := 0) C d_X2_leastCost_15 rfl rfl ?_
      refine V_getR C ck_2 fw_X2_15 d_X2_leastCost_16 h (fun v3 h => ?_)
      refine V_iload_n (j := 3) C d_X2_leastCost_19 rfl rfl ?_
      refine V_iconst C d_X2_leastCost_20 ?_
      refine V_iadd C d_X2_leastCost_21 ?_
      refine V_iald C d_X2_leastCost_22 (ok_wr _) h (fun v4 o4 h => ?_)
      refine V_iconst C d_X2_leastCost_23 ?_
      refine V_iadd C d_X2_leastCost_24 ?_
      refine V_istore (lv' := [(4, iv_i (wr_i (v4 + 5))), (0, .ref (G.1 + x0)), (1, iv_i x1), (2, iv_i x2), (3, iv_i x3)]) C d_X2_leastCost_25 (by decide) rfl ?_
      refine V_iconst C d_X2_leastCost_27 ?_
      refine V_istore (lv' := [(5, iv_i 1), (4, iv_i (wr_i (v4 + 5))), (0, .ref (G.1 + x0)), (1, iv_i x1), (2, iv_i x2), (3, iv_i x3)]) C d_X2_leastCost_28 (by decide) rfl ?_
      refine V_lv [2, 3, 4, 5, 1, 0] rfl (t_X2_leastCost_30 C hR M x0 x1 x2 x3 o_x1 o_x2 o_x3 (fun M x3 => f_X2_leastCost_11 G.2.2.2 x0 x1 x2 n M x3) (fun M x3 o_x3 h9 => ih M x3 o_x3 h9) FU_ (wr_i (v4 + 5)) 1 (ok_wr _) (okc rfl) h)
set_option maxHeartbeats 4000000 in
set_option maxRecDepth 100000 in
theorem t_X2_leastCost {X : XT_x} {G : GT_g} {M : Mem_m} {z : (Mem_m × Int)} (C : Cx_ (K_X2_leastCost) X G) (hR : Rx_ X G (some .int)) (x0 : Nat) (x1 : Int) (x2 : Int) (o_x1 : ok_i x1) (o_x2 : ok_i x2) (h : f_X2_leastCost G.2.2.2 M x0 x1 x2 = some z) : V_ (K_X2_leastCost) X G (Fq_ X G (Qi_ G z.1 z.2)) M 0 [(0, .ref (G.1 + x0)), (1, iv_i x1), (2, iv_i x2)] [] := by
  unfold f_X2_leastCost at h
  refine V_aload_n (j := 0) C d_X2_leastCost_0 rfl rfl ?_
  refine V_getR C ck_2 fw_X2_15 d_X2_leastCost_1 h (fun v1 h => ?_)
  refine V_iload_n (j := 1) C d_X2_leastCost_4 rfl rfl ?_
  refine V_iconst C d_X2_leastCost_5 ?_
  refine V_iast C d_X2_leastCost_6 o_x1 (okc rfl) h (fun M2 h => ?_)
  refine V_iload_n (j := 1) C d_X2_leastCost_7 rfl rfl ?_
  refine V_iconst C d_X2_leastCost_8 ?_
  refine V_isub C d_X2_leastCost_9 ?_
  refine V_istore_n (lv' := [(3, iv_i (wr_i (x1 - 1))), (0, .ref (G.1 + x0)), (1, iv_i x1), (2, iv_i x2)]) C d_X2_leastCost_10 rfl (by decide) rfl ?_
  refine V_lv [1, 2, 3, 0] rfl (t_X2_leastCost_11 C hR x0 x1 x2 o_x1 o_x2 FU_ M2 (wr_i (x1 - 1)) (ok_wr _) h)
set_option maxHeartbeats 4000000 in
set_option maxRecDepth 100000 in
theorem ct_X2_leastCost {l : Launch} {G : GT_g} {M : Mem_m} (x0 : Nat) (x1 : Int) (x2 : Int) (o_x1 : ok_i x1) (o_x2 : ok_i x2) {z : (Mem_m × Int)} (h : f_X2_leastCost G.2.2.2 M x0 x1 x2 = some z) : MI_ l yX2_leastCost K_X2_leastCost (some .int) G M [.ref (G.1 + x0), iv_i x1, iv_i x2] z.1 z.2 :=
  met_of (by decide +kernel) rfl (Nat.le_of_ble_eq_true rfl) (fun X hl C hR => by subst hl; exact t_X2_leastCost C hR x0 x1 x2 o_x1 o_x2 h)
theorem d_X2_longestNote_0 : decode cX2_longestNote 0 = .ok (.iload_n 2, 1) := by decide +kernel
theorem d_X2_longestNote_1 : decode cX2_longestNote 1 = .ok (.iload_n 1, 1) := by decide +kernel
theorem d_X2_longestNote_2 : decode cX2_longestNote 2 = .ok (.isub, 1) := by decide +kernel
theorem d_X2_longestNote_3 : decode cX2_longestNote 3 = .ok (.istore 4, 2) := by decide +kernel
theorem d_X2_longestNote_5 : decode cX2_longestNote 5 = .ok (.iload 4, 2) := by decide +kernel
theorem d_X2_longestNote_7 : decode cX2_longestNote 7 = .ok (.ifCond .le 49, 3) := by decide +kernel
theorem d_X2_longestNote_10 : decode cX2_longestNote 10 = .ok (.aload_n 0, 1) := by decide +kernel
theorem d_X2_longestNote_11 : decode cX2_longestNote 11 = .ok (.getfield 11, 3) := by decide +kernel
theorem d_X2_longestNote_14 : decode cX2_longestNote 14 = .ok (.iload_n 1, 1) := by decide +kernel
theorem d_X2_longestNote_15 : decode cX2_longestNote 15 = .ok (.bipush 9, 2) := by decide +kernel
theorem d_X2_longestNote_17 : decode cX2_longestNote 17 = .ok (.imul, 1) := by decide +kernel
theorem d_X2_longestNote_18 : decode cX2_longestNote 18 = .ok (.iload 4, 2) := by decide +kernel
theorem d_X2_longestNote_20 : decode cX2_longestNote 20 = .ok (.iadd, 1) := by decide +kernel
theorem d_X2_longestNote_21 : decode cX2_longestNote 21 = .ok (.iaload, 1) := by decide +kernel
theorem d_X2_longestNote_22 : decode cX2_longestNote 22 = .ok (.iload_n 3, 1) := by decide +kernel
theorem d_X2_longestNote_23 : decode cX2_longestNote 23 = .ok (.iand, 1) := by decide +kernel
theorem d_X2_longestNote_24 : decode cX2_longestNote 24 = .ok (.ifCond .eq 26, 3) := by decide +kernel
theorem d_X2_longestNote_27 : decode cX2_longestNote 27 = .ok (.aload_n 0, 1) := by decide +kernel
theorem d_X2_longestNote_28 : decode cX2_longestNote 28 = .ok (.getfield 15, 3) := by decide +kernel
theorem d_X2_longestNote_31 : decode cX2_longestNote 31 = .ok (.iload_n 1, 1) := by decide +kernel
theorem d_X2_longestNote_32 : decode cX2_longestNote 32 = .ok (.iaload, 1) := by decide +kernel
theorem d_X2_longestNote_33 : decode cX2_longestNote 33 = .ok (.aload_n 0, 1) := by decide +kernel
theorem d_X2_longestNote_34 : decode cX2_longestNote 34 = .ok (.getfield 15, 3) := by decide +kernel
theorem d_X2_longestNote_37 : decode cX2_longestNote 37 = .ok (.iload_n 1, 1) := by decide +kernel
theorem d_X2_longestNote_38 : decode cX2_longestNote 38 = .ok (.iload 4, 2) := by decide +kernel
theorem d_X2_longestNote_40 : decode cX2_longestNote 40 = .ok (.iadd, 1) := by decide +kernel
theorem d_X2_longestNote_41 : decode cX2_longestNote 41 = .ok (.iaload, 1) := by decide +kernel
theorem d_X2_longestNote_42 : decode cX2_longestNote 42 = .ok (.iconst 2, 1) := by decide +kernel
theorem d_X2_longestNote_43 : decode cX2_longestNote 43 = .ok (.iadd, 1) := by decide +kernel
theorem d_X2_longestNote_44 : decode cX2_longestNote 44 = .ok (.if_icmp .ne 6, 3) := by decide +kernel
theorem d_X2_longestNote_47 : decode cX2_longestNote 47 = .ok (.iload 4, 2) := by decide +kernel
theorem d_X2_longestNote_49 : decode cX2_longestNote 49 = .ok (.ireturn, 1) := by decide +kernel
theorem d_X2_longestNote_50 : decode cX2_longestNote 50 = .ok (.iinc 4 (-1), 3) := by decide +kernel
theorem d_X2_longestNote_53 : decode cX2_longestNote 53 = .ok (.goto (-48), 3) := by decide +kernel
theorem d_X2_longestNote_56 : decode cX2_longestNote 56 = .ok (.iconst 0, 1) := by decide +kernel
theorem d_X2_longestNote_57 : decode cX2_longestNote 57 = .ok (.ireturn, 1) := by decide +kernel
set_option maxHeartbeats 4000000 in
set_option maxRecDepth 100000 in
theorem t_X2_longestNote_5 {X : XT_x} {G : GT_g} {z : Int} (C : Cx_ (K_X2_longestNote) X G) (hR : Rx_ X G (some .int)) (M : Mem_m) (x0 : Nat) (x1 : Int) (x3 : Int) (o_x1 : ok_i x1) (o_x3 : ok_i x3) : ∀ (n : Nat) (x4 : Int) (o_x4 : ok_i x4), f_X2_longestNote_5 G.2.2.2 M x0 x1 x3 n x4 = some z → V_ (K_X2_longestNote) X G (Fq_ X G (Qi_ G M z)) M 5 [(0, .ref (G.1 + x0)), (1, iv_i x1), (3, iv_i x3), (4, iv_i x4)] [] := by
  intro n
  induction n with
  | zero => intro x4 o_x4 h; exact absurd h (by simp [f_X2_longestNote_5])
  | succ n ih =>
    intro x4 o_x4 h
    unfold f_X2_longestNote_5 at h
    refine V_iload (j := 3) C d_X2_longestNote_5 rfl ?_
    refine V_if_le (tgt := 56) C d_X2_longestNote_7 (by decide) o_x4 h (fun h => ?_) (fun h => ?_)
    · skip
      refine V_iconst C d_X2_longestNote_56 ?_
      exact V_iret_r C hR d_X2_longestNote_57 (okc rfl) h
    · skip
      refine V_aload_n (j := 0) C d_X2_longestNote_10 rfl rfl ?_
      refine V_getR C ck_2 fw_X2_11 d_X2_longestNote_11 h (fun v1 h => ?_)
      refine V_iload_n (j := 1) C d_X2_longestNote_14 rfl rfl ?_
      refine V_bipush (v := 9) C d_X2_longestNote_15 rfl ?_
      refine V_imul C d_X2_longestNote_17 ?_
      refine V_iload (j := 3) C d_X2_longestNote_18 rfl ?_
      refine V_iadd C d_X2_longestNote_20 ?_
      refine V_iald C d_X2_longestNote_21 (ok_wr _) h (fun v2 o2 h => ?_)
      refine V_iload_n (j := 2) C d_X2_longestNote_22 rfl rfl ?_
      refine V_iand C d_X2_longestNote_23 ?_
      refine V_if_eq (tgt := 50) C d_X2_longestNote_24 (by decide) (ok_I _) h (fun h => ?_) (fun h => ?_)
      · skip
        refine V_iinc (j := 3) (lv' := [(4, iv_i (wr_i (x4 + (-1)))), (0, .ref (G.1 + x0)), (1, iv_i x1), (3, iv_i x3)]) C d_X2_longestNote_50 rfl (by decide) rfl ?_
        refine V_goto (tgt := 5) C d_X2_longestNote_53 (by decide) ?_
        refine V_lv [1, 2, 3, 0] rfl (ih (wr_i (x4 + (-1))) (ok_wr _) h)
      · skip
        refine V_aload_n (j := 0) C d_X2_longestNote_27 rfl rfl ?_
        refine V_getR C ck_2 fw_X2_15 d_X2_longestNote_28 h (fun v3 h => ?_)
        refine V_iload_n (j := 1) C d_X2_longestNote_31 rfl rfl ?_
        refine V_iald C d_X2_longestNote_32 o_x1 h (fun v4 o4 h => ?_)
        refine V_aload_n (j := 0) C d_X2_longestNote_33 rfl rfl ?_
        refine V_getR C ck_2 fw_X2_15 d_X2_longestNote_34 h (fun v5 h => ?_)
        refine V_iload_n (j := 1) C d_X2_longestNote_37 rfl rfl ?_
        refine V_iload (j := 3) C d_X2_longestNote_38 rfl ?_
        refine V_iadd C d_X2_longestNote_40 ?_
        refine V_iald C d_X2_longestNote_41 (ok_wr _) h (fun v6 o6 h => ?_)
        refine V_iconst C d_X2_longestNote_42 ?_
        refine V_iadd C d_X2_longestNote_43 ?_
        refine V_icmp_ne (tgt := 50) C d_X2_longestNote_44 (by decide) o4 (ok_wr _) h (fun h => ?_) (fun h => ?_)
        · skip
          refine V_iload (j := 3) C d_X2_longestNote_47 rfl ?_
          exact V_iret_r C hR d_X2_longestNote_49 o_x4 h
        · skip
          refine V_iinc (j := 3) (lv' := [(4, iv_i (wr_i (x4 + (-1)))), (0, .ref (G.1 + x0)), (1, iv_i x1), (3, iv_i x3)]) C d_X2_longestNote_50 rfl (by decide) rfl ?_
          refine V_goto (tgt := 5) C d_X2_longestNote_53 (by decide) ?_
          refine V_lv [1, 2, 3, 0] rfl (ih (wr_i (x4 + (-1))) (ok_wr _) h)
set_option maxHeartbeats 4000000 in
set_option maxRecDepth 100000 in
theorem t_X2_longestNote {X : XT_x} {G : GT_g} {M : Mem_m} {z : Int} (C : Cx_ (K_X2_longestNote) X G) (hR : Rx_ X G (some .int)) (x0 : Nat) (x1 : Int) (x2 : Int) (x3 : Int) (o_x1 : ok_i x1) (o_x2 : ok_i x2) (o_x3 : ok_i x3) (h : f_X2_longestNote G.2.2.2 M x0 x1 x2 x3 = some z) : V_ (K_X2_longestNote) X G (Fq_ X G (Qi_ G M z)) M 0 [(0, .ref (G.1 + x0)), (1, iv_i x1), (2, iv_i x2), (3, iv_i x3)] [] := by
  unfold f_X2_longestNote at h
  refine V_iload_n (j := 2) C d_X2_longestNote_0 rfl rfl ?_
  refine V_iload_n (j := 1) C d_X2_longestNote_1 rfl rfl ?_
  refine V_isub C d_X2_longestNote_2 ?_
  refine V_istore (lv' := [(4, iv_i (wr_i (x2 - x1))), (0, .ref (G.1 + x0)), (1, iv_i x1), (2, iv_i x2), (3, iv_i x3)]) C d_X2_longestNote_3 (by decide) rfl ?_
  refine V_lv [1, 2, 4, 0] rfl (t_X2_longestNote_5 C hR M x0 x1 x3 o_x1 o_x3 FU_ (wr_i (x2 - x1)) (ok_wr _) h)
set_option maxHeartbeats 4000000 in
set_option maxRecDepth 100000 in
theorem ct_X2_longestNote {l : Launch} {G : GT_g} {M : Mem_m} (x0 : Nat) (x1 : Int) (x2 : Int) (x3 : Int) (o_x1 : ok_i x1) (o_x2 : ok_i x2) (o_x3 : ok_i x3) {z : Int} (h : f_X2_longestNote G.2.2.2 M x0 x1 x2 x3 = some z) : MI_ l yX2_longestNote K_X2_longestNote (some .int) G M [.ref (G.1 + x0), iv_i x1, iv_i x2, iv_i x3] M z :=
  met_of (by decide +kernel) rfl (Nat.le_of_ble_eq_true rfl) (fun X hl C hR => by subst hl; exact t_X2_longestNote C hR x0 x1 x2 x3 o_x1 o_x2 o_x3 h)
theorem d_J6_numberOfTrailingZeros_0f7a4_0 : decode cJ6_numberOfTrailingZeros_0f7a4 0 = .ok (.iload_n 0, 1) := by decide +kernel
theorem d_J6_numberOfTrailingZeros_0f7a4_1 : decode cJ6_numberOfTrailingZeros_0f7a4 1 = .ok (.iconst (-1), 1) := by decide +kernel
theorem d_J6_numberOfTrailingZeros_0f7a4_2 : decode cJ6_numberOfTrailingZeros_0f7a4 2 = .ok (.ixor, 1) := by decide +kernel
theorem d_J6_numberOfTrailingZeros_0f7a4_3 : decode cJ6_numberOfTrailingZeros_0f7a4 3 = .ok (.iload_n 0, 1) := by decide +kernel
theorem d_J6_numberOfTrailingZeros_0f7a4_4 : decode cJ6_numberOfTrailingZeros_0f7a4 4 = .ok (.iconst 1, 1) := by decide +kernel
theorem d_J6_numberOfTrailingZeros_0f7a4_5 : decode cJ6_numberOfTrailingZeros_0f7a4 5 = .ok (.isub, 1) := by decide +kernel
theorem d_J6_numberOfTrailingZeros_0f7a4_6 : decode cJ6_numberOfTrailingZeros_0f7a4 6 = .ok (.iand, 1) := by decide +kernel
theorem d_J6_numberOfTrailingZeros_0f7a4_7 : decode cJ6_numberOfTrailingZeros_0f7a4 7 = .ok (.istore_n 0, 1) := by decide +kernel
theorem d_J6_numberOfTrailingZeros_0f7a4_8 : decode cJ6_numberOfTrailingZeros_0f7a4 8 = .ok (.iload_n 0, 1) := by decide +kernel
theorem d_J6_numberOfTrailingZeros_0f7a4_9 : decode cJ6_numberOfTrailingZeros_0f7a4 9 = .ok (.ifCond .gt 8, 3) := by decide +kernel
theorem d_J6_numberOfTrailingZeros_0f7a4_12 : decode cJ6_numberOfTrailingZeros_0f7a4 12 = .ok (.iload_n 0, 1) := by decide +kernel
theorem d_J6_numberOfTrailingZeros_0f7a4_13 : decode cJ6_numberOfTrailingZeros_0f7a4 13 = .ok (.bipush 32, 2) := by decide +kernel
theorem d_J6_numberOfTrailingZeros_0f7a4_15 : decode cJ6_numberOfTrailingZeros_0f7a4 15 = .ok (.iand, 1) := by decide +kernel
theorem d_J6_numberOfTrailingZeros_0f7a4_16 : decode cJ6_numberOfTrailingZeros_0f7a4 16 = .ok (.ireturn, 1) := by decide +kernel
theorem d_J6_numberOfTrailingZeros_0f7a4_17 : decode cJ6_numberOfTrailingZeros_0f7a4 17 = .ok (.iconst 1, 1) := by decide +kernel
theorem d_J6_numberOfTrailingZeros_0f7a4_18 : decode cJ6_numberOfTrailingZeros_0f7a4 18 = .ok (.istore_n 1, 1) := by decide +kernel
theorem d_J6_numberOfTrailingZeros_0f7a4_19 : decode cJ6_numberOfTrailingZeros_0f7a4 19 = .ok (.iload_n 0, 1) := by decide +kernel
theorem d_J6_numberOfTrailingZeros_0f7a4_20 : decode cJ6_numberOfTrailingZeros_0f7a4 20 = .ok (.ldc_w 264, 3) := by decide +kernel
theorem d_J6_numberOfTrailingZeros_0f7a4_23 : decode cJ6_numberOfTrailingZeros_0f7a4 23 = .ok (.if_icmp .le 11, 3) := by decide +kernel
theorem d_J6_numberOfTrailingZeros_0f7a4_26 : decode cJ6_numberOfTrailingZeros_0f7a4 26 = .ok (.iinc 1 16, 3) := by decide +kernel
theorem d_J6_numberOfTrailingZeros_0f7a4_29 : decode cJ6_numberOfTrailingZeros_0f7a4 29 = .ok (.iload_n 0, 1) := by decide +kernel
theorem d_J6_numberOfTrailingZeros_0f7a4_30 : decode cJ6_numberOfTrailingZeros_0f7a4 30 = .ok (.bipush 16, 2) := by decide +kernel
theorem d_J6_numberOfTrailingZeros_0f7a4_32 : decode cJ6_numberOfTrailingZeros_0f7a4 32 = .ok (.iushr, 1) := by decide +kernel
theorem d_J6_numberOfTrailingZeros_0f7a4_33 : decode cJ6_numberOfTrailingZeros_0f7a4 33 = .ok (.istore_n 0, 1) := by decide +kernel
theorem d_J6_numberOfTrailingZeros_0f7a4_34 : decode cJ6_numberOfTrailingZeros_0f7a4 34 = .ok (.iload_n 0, 1) := by decide +kernel
theorem d_J6_numberOfTrailingZeros_0f7a4_35 : decode cJ6_numberOfTrailingZeros_0f7a4 35 = .ok (.sipush 256, 3) := by decide +kernel
theorem d_J6_numberOfTrailingZeros_0f7a4_38 : decode cJ6_numberOfTrailingZeros_0f7a4 38 = .ok (.if_icmp .le 11, 3) := by decide +kernel
theorem d_J6_numberOfTrailingZeros_0f7a4_41 : decode cJ6_numberOfTrailingZeros_0f7a4 41 = .ok (.iinc 1 8, 3) := by decide +kernel
theorem d_J6_numberOfTrailingZeros_0f7a4_44 : decode cJ6_numberOfTrailingZeros_0f7a4 44 = .ok (.iload_n 0, 1) := by decide +kernel
theorem d_J6_numberOfTrailingZeros_0f7a4_45 : decode cJ6_numberOfTrailingZeros_0f7a4 45 = .ok (.bipush 8, 2) := by decide +kernel
theorem d_J6_numberOfTrailingZeros_0f7a4_47 : decode cJ6_numberOfTrailingZeros_0f7a4 47 = .ok (.iushr, 1) := by decide +kernel
theorem d_J6_numberOfTrailingZeros_0f7a4_48 : decode cJ6_numberOfTrailingZeros_0f7a4 48 = .ok (.istore_n 0, 1) := by decide +kernel
theorem d_J6_numberOfTrailingZeros_0f7a4_49 : decode cJ6_numberOfTrailingZeros_0f7a4 49 = .ok (.iload_n 0, 1) := by decide +kernel
theorem d_J6_numberOfTrailingZeros_0f7a4_50 : decode cJ6_numberOfTrailingZeros_0f7a4 50 = .ok (.bipush 16, 2) := by decide +kernel
theorem d_J6_numberOfTrailingZeros_0f7a4_52 : decode cJ6_numberOfTrailingZeros_0f7a4 52 = .ok (.if_icmp .le 10, 3) := by decide +kernel
theorem d_J6_numberOfTrailingZeros_0f7a4_55 : decode cJ6_numberOfTrailingZeros_0f7a4 55 = .ok (.iinc 1 4, 3) := by decide +kernel
theorem d_J6_numberOfTrailingZeros_0f7a4_58 : decode cJ6_numberOfTrailingZeros_0f7a4 58 = .ok (.iload_n 0, 1) := by decide +kernel
theorem d_J6_numberOfTrailingZeros_0f7a4_59 : decode cJ6_numberOfTrailingZeros_0f7a4 59 = .ok (.iconst 4, 1) := by decide +kernel
theorem d_J6_numberOfTrailingZeros_0f7a4_60 : decode cJ6_numberOfTrailingZeros_0f7a4 60 = .ok (.iushr, 1) := by decide +kernel
theorem d_J6_numberOfTrailingZeros_0f7a4_61 : decode cJ6_numberOfTrailingZeros_0f7a4 61 = .ok (.istore_n 0, 1) := by decide +kernel
theorem d_J6_numberOfTrailingZeros_0f7a4_62 : decode cJ6_numberOfTrailingZeros_0f7a4 62 = .ok (.iload_n 0, 1) := by decide +kernel
theorem d_J6_numberOfTrailingZeros_0f7a4_63 : decode cJ6_numberOfTrailingZeros_0f7a4 63 = .ok (.iconst 4, 1) := by decide +kernel
theorem d_J6_numberOfTrailingZeros_0f7a4_64 : decode cJ6_numberOfTrailingZeros_0f7a4 64 = .ok (.if_icmp .le 10, 3) := by decide +kernel
theorem d_J6_numberOfTrailingZeros_0f7a4_67 : decode cJ6_numberOfTrailingZeros_0f7a4 67 = .ok (.iinc 1 2, 3) := by decide +kernel
theorem d_J6_numberOfTrailingZeros_0f7a4_70 : decode cJ6_numberOfTrailingZeros_0f7a4 70 = .ok (.iload_n 0, 1) := by decide +kernel
theorem d_J6_numberOfTrailingZeros_0f7a4_71 : decode cJ6_numberOfTrailingZeros_0f7a4 71 = .ok (.iconst 2, 1) := by decide +kernel
theorem d_J6_numberOfTrailingZeros_0f7a4_72 : decode cJ6_numberOfTrailingZeros_0f7a4 72 = .ok (.iushr, 1) := by decide +kernel
theorem d_J6_numberOfTrailingZeros_0f7a4_73 : decode cJ6_numberOfTrailingZeros_0f7a4 73 = .ok (.istore_n 0, 1) := by decide +kernel
theorem d_J6_numberOfTrailingZeros_0f7a4_74 : decode cJ6_numberOfTrailingZeros_0f7a4 74 = .ok (.iload_n 1, 1) := by decide +kernel
theorem d_J6_numberOfTrailingZeros_0f7a4_75 : decode cJ6_numberOfTrailingZeros_0f7a4 75 = .ok (.iload_n 0, 1) := by decide +kernel
theorem d_J6_numberOfTrailingZeros_0f7a4_76 : decode cJ6_numberOfTrailingZeros_0f7a4 76 = .ok (.iconst 1, 1) := by decide +kernel
theorem d_J6_numberOfTrailingZeros_0f7a4_77 : decode cJ6_numberOfTrailingZeros_0f7a4 77 = .ok (.iushr, 1) := by decide +kernel
theorem d_J6_numberOfTrailingZeros_0f7a4_78 : decode cJ6_numberOfTrailingZeros_0f7a4 78 = .ok (.iadd, 1) := by decide +kernel
theorem d_J6_numberOfTrailingZeros_0f7a4_79 : decode cJ6_numberOfTrailingZeros_0f7a4 79 = .ok (.ireturn, 1) := by decide +kernel
set_option maxHeartbeats 4000000 in
set_option maxRecDepth 100000 in
theorem t_J6_numberOfTrailingZeros_0f7a4_62 {X : XT_x} {G : GT_g} {z : Int} (C : Cx_ (K_J6_numberOfTrailingZeros_0f7a4) X G) (hR : Rx_ X G (some .int)) (M : Mem_m) (x0 : Int) (x1 : Int) (o_x0 : ok_i x0) (o_x1 : ok_i x1) (h : f_J6_numberOfTrailingZeros_0f7a4_62 G.2.2.2 M x0 x1 = some z) : V_ (K_J6_numberOfTrailingZeros_0f7a4) X G (Fq_ X G (Qi_ G M z)) M 62 [(0, iv_i x0), (1, iv_i x1)] [] := by
  unfold f_J6_numberOfTrailingZeros_0f7a4_62 at h
  refine V_iload_n (j := 0) C d_J6_numberOfTrailingZeros_0f7a4_62 rfl rfl ?_
  refine V_iconst C d_J6_numberOfTrailingZeros_0f7a4_63 ?_
  refine V_icmp_le (tgt := 74) C d_J6_numberOfTrailingZeros_0f7a4_64 (by decide) o_x0 (okc rfl) h (fun h => ?_) (fun h => ?_)
  · skip
    refine V_iload_n (j := 1) C d_J6_numberOfTrailingZeros_0f7a4_74 rfl rfl ?_
    refine V_iload_n (j := 0) C d_J6_numberOfTrailingZeros_0f7a4_75 rfl rfl ?_
    refine V_iconst C d_J6_numberOfTrailingZeros_0f7a4_76 ?_
    refine V_iushr C d_J6_numberOfTrailingZeros_0f7a4_77 ?_
    refine V_iadd C d_J6_numberOfTrailingZeros_0f7a4_78 ?_
    exact V_iret_r C hR d_J6_numberOfTrailingZeros_0f7a4_79 (ok_wr _) h
  · skip
    refine V_iinc (j := 1) (lv' := [(1, iv_i (wr_i (x1 + 2))), (0, iv_i x0)]) C d_J6_numberOfTrailingZeros_0f7a4_67 rfl (by decide) rfl ?_
    refine V_iload_n (j := 1) C d_J6_numberOfTrailingZeros_0f7a4_70 rfl rfl ?_
    refine V_iconst C d_J6_numberOfTrailingZeros_0f7a4_71 ?_
    refine V_iushr C d_J6_numberOfTrailingZeros_0f7a4_72 ?_
    refine V_istore_n (lv' := [(0, iv_i (us_i x0 2)), (1, iv_i (wr_i (x1 + 2)))]) C d_J6_numberOfTrailingZeros_0f7a4_73 rfl (by decide) rfl ?_
    refine V_iload_n (j := 1) C d_J6_numberOfTrailingZeros_0f7a4_74 rfl rfl ?_
    refine V_iload_n (j := 0) C d_J6_numberOfTrailingZeros_0f7a4_75 rfl rfl ?_
    refine V_iconst C d_J6_numberOfTrailingZeros_0f7a4_76 ?_
    refine V_iushr C d_J6_numberOfTrailingZeros_0f7a4_77 ?_
    refine V_iadd C d_J6_numberOfTrailingZeros_0f7a4_78 ?_
    exact V_iret_r C hR d_J6_numberOfTrailingZeros_0f7a4_79 (ok_wr _) h
set_option maxHeartbeats 4000000 in
set_option maxRecDepth 100000 in
theorem t_J6_numberOfTrailingZeros_0f7a4_49 {X : XT_x} {G : GT_g} {z : Int} (C : Cx_ (K_J6_numberOfTrailingZeros_0f7a4) X G) (hR : Rx_ X G (some .int)) (M : Mem_m) (x0 : Int) (x1 : Int) (o_x0 : ok_i x0) (o_x1 : ok_i x1) (h : f_J6_numberOfTrailingZeros_0f7a4_49 G.2.2.2 M x0 x1 = some z) : V_ (K_J6_numberOfTrailingZeros_0f7a4) X G (Fq_ X G (Qi_ G M z)) M 49 [(0, iv_i x0), (1, iv_i x1)] [] := by
  unfold f_J6_numberOfTrailingZeros_0f7a4_49 at h
  refine V_iload_n (j := 0) C d_J6_numberOfTrailingZeros_0f7a4_49 rfl rfl ?_
  refine V_bipush (v := 16) C d_J6_numberOfTrailingZeros_0f7a4_50 rfl ?_
  refine V_icmp_le (tgt := 62) C d_J6_numberOfTrailingZeros_0f7a4_52 (by decide) o_x0 (okc rfl) h (fun h => ?_) (fun h => ?_)
  · skip
    refine V_lv [0, 1] rfl (t_J6_numberOfTrailingZeros_0f7a4_62 C hR M x0 x1 o_x0 o_x1 h)
  · skip
    refine V_iinc (j := 1) (lv' := [(1, iv_i (wr_i (x1 + 4))), (0, iv_i x0)]) C d_J6_numberOfTrailingZeros_0f7a4_55 rfl (by decide) rfl ?_
    refine V_iload_n (j := 1) C d_J6_numberOfTrailingZeros_0f7a4_58 rfl rfl ?_
    refine V_iconst C d_J6_numberOfTrailingZeros_0f7a4_59 ?_
    refine V_iushr C d_J6_numberOfTrailingZeros_0f7a4_60 ?_
    refine V_istore_n (lv' := [(0, iv_i (us_i x0 4)), (1, iv_i (wr_i (x1 + 4)))]) C d_J6_numberOfTrailingZeros_0f7a4_61 rfl (by decide) rfl ?_
    refine V_lv [0, 1] rfl (t_J6_numberOfTrailingZeros_0f7a4_62 C hR M (us_i x0 4) (wr_i (x1 + 4)) (ok_I _) (ok_wr _) h)
set_option maxHeartbeats 4000000 in
set_option maxRecDepth 100000 in
theorem t_J6_numberOfTrailingZeros_0f7a4_34 {X : XT_x} {G : GT_g} {z : Int} (C : Cx_ (K_J6_numberOfTrailingZeros_0f7a4) X G) (hR : Rx_ X G (some .int)) (M : Mem_m) (x0 : Int) (x1 : Int) (o_x0 : ok_i x0) (o_x1 : ok_i x1) (h : f_J6_numberOfTrailingZeros_0f7a4_34 G.2.2.2 M x0 x1 = some z) : V_ (K_J6_numberOfTrailingZeros_0f7a4) X G (Fq_ X G (Qi_ G M z)) M 34 [(0, iv_i x0), (1, iv_i x1)] [] := by
  unfold f_J6_numberOfTrailingZeros_0f7a4_34 at h
  refine V_iload_n (j := 0) C d_J6_numberOfTrailingZeros_0f7a4_34 rfl rfl ?_
  refine V_sipush (v := 256) C d_J6_numberOfTrailingZeros_0f7a4_35 rfl ?_
  refine V_icmp_le (tgt := 49) C d_J6_numberOfTrailingZeros_0f7a4_38 (by decide) o_x0 (okc rfl) h (fun h => ?_) (fun h => ?_)
  · skip
    refine V_lv [0, 1] rfl (t_J6_numberOfTrailingZeros_0f7a4_49 C hR M x0 x1 o_x0 o_x1 h)
  · skip
    refine V_iinc (j := 1) (lv' := [(1, iv_i (wr_i (x1 + 8))), (0, iv_i x0)]) C d_J6_numberOfTrailingZeros_0f7a4_41 rfl (by decide) rfl ?_
    refine V_iload_n (j := 1) C d_J6_numberOfTrailingZeros_0f7a4_44 rfl rfl ?_
    refine V_bipush (v := 8) C d_J6_numberOfTrailingZeros_0f7a4_45 rfl ?_
    refine V_iushr C d_J6_numberOfTrailingZeros_0f7a4_47 ?_
    refine V_istore_n (lv' := [(0, iv_i (us_i x0 8)), (1, iv_i (wr_i (x1 + 8)))]) C d_J6_numberOfTrailingZeros_0f7a4_48 rfl (by decide) rfl ?_
    refine V_lv [0, 1] rfl (t_J6_numberOfTrailingZeros_0f7a4_49 C hR M (us_i x0 8) (wr_i (x1 + 8)) (ok_I _) (ok_wr _) h)
set_option maxHeartbeats 4000000 in
set_option maxRecDepth 100000 in
theorem t_J6_numberOfTrailingZeros_0f7a4 {X : XT_x} {G : GT_g} {M : Mem_m} {z : Int} (C : Cx_ (K_J6_numberOfTrailingZeros_0f7a4) X G) (hR : Rx_ X G (some .int)) (x0 : Int) (o_x0 : ok_i x0) (h : f_J6_numberOfTrailingZeros_0f7a4 G.2.2.2 M x0 = some z) : V_ (K_J6_numberOfTrailingZeros_0f7a4) X G (Fq_ X G (Qi_ G M z)) M 0 [(0, iv_i x0)] [] := by
  unfold f_J6_numberOfTrailingZeros_0f7a4 at h
  refine V_iload_n (j := 0) C d_J6_numberOfTrailingZeros_0f7a4_0 rfl rfl ?_
  refine V_iconst C d_J6_numberOfTrailingZeros_0f7a4_1 ?_
  refine V_ixor C d_J6_numberOfTrailingZeros_0f7a4_2 ?_
  refine V_iload_n (j := 0) C d_J6_numberOfTrailingZeros_0f7a4_3 rfl rfl ?_
  refine V_iconst C d_J6_numberOfTrailingZeros_0f7a4_4 ?_
  refine V_isub C d_J6_numberOfTrailingZeros_0f7a4_5 ?_
  refine V_iand C d_J6_numberOfTrailingZeros_0f7a4_6 ?_
  refine V_istore_n (lv' := [(0, iv_i (an_i (xo_i x0 (-1)) (wr_i (x0 - 1))))]) C d_J6_numberOfTrailingZeros_0f7a4_7 rfl (by decide) rfl ?_
  refine V_iload_n (j := 0) C d_J6_numberOfTrailingZeros_0f7a4_8 rfl rfl ?_
  refine V_if_gt (tgt := 17) C d_J6_numberOfTrailingZeros_0f7a4_9 (by decide) (ok_I _) h (fun h => ?_) (fun h => ?_)
  · skip
    refine V_iload_n (j := 0) C d_J6_numberOfTrailingZeros_0f7a4_12 rfl rfl ?_
    refine V_bipush (v := 32) C d_J6_numberOfTrailingZeros_0f7a4_13 rfl ?_
    refine V_iand C d_J6_numberOfTrailingZeros_0f7a4_15 ?_
    exact V_iret_r C hR d_J6_numberOfTrailingZeros_0f7a4_16 (ok_I _) h
  · skip
    refine V_iconst C d_J6_numberOfTrailingZeros_0f7a4_17 ?_
    refine V_istore_n (lv' := [(1, iv_i 1), (0, iv_i (an_i (xo_i x0 (-1)) (wr_i (x0 - 1))))]) C d_J6_numberOfTrailingZeros_0f7a4_18 rfl (by decide) rfl ?_
    refine V_iload_n (j := 1) C d_J6_numberOfTrailingZeros_0f7a4_19 rfl rfl ?_
    refine V_ldcw (v := 65536) C d_J6_numberOfTrailingZeros_0f7a4_20 cn_J6_264 ?_
    refine V_icmp_le (tgt := 34) C d_J6_numberOfTrailingZeros_0f7a4_23 (by decide) (ok_I _) (okc rfl) h (fun h => ?_) (fun h => ?_)
    · skip
      refine V_lv [1, 0] rfl (t_J6_numberOfTrailingZeros_0f7a4_34 C hR M (an_i (xo_i x0 (-1)) (wr_i (x0 - 1))) 1 (ok_I _) (okc rfl) h)
    · skip
      refine V_iinc (j := 0) (lv' := [(1, iv_i (wr_i (1 + 16))), (0, iv_i (an_i (xo_i x0 (-1)) (wr_i (x0 - 1))))]) C d_J6_numberOfTrailingZeros_0f7a4_26 rfl (by decide) rfl ?_
      refine V_iload_n (j := 1) C d_J6_numberOfTrailingZeros_0f7a4_29 rfl rfl ?_
      refine V_bipush (v := 16) C d_J6_numberOfTrailingZeros_0f7a4_30 rfl ?_
      refine V_iushr C d_J6_numberOfTrailingZeros_0f7a4_32 ?_
      refine V_istore_n (lv' := [(0, iv_i (us_i (an_i (xo_i x0 (-1)) (wr_i (x0 - 1))) 16)), (1, iv_i (wr_i (1 + 16)))]) C d_J6_numberOfTrailingZeros_0f7a4_33 rfl (by decide) rfl ?_
      refine V_lv [0, 1] rfl (t_J6_numberOfTrailingZeros_0f7a4_34 C hR M (us_i (an_i (xo_i x0 (-1)) (wr_i (x0 - 1))) 16) (wr_i (1 + 16)) (ok_I _) (ok_wr _) h)
set_option maxHeartbeats 4000000 in
set_option maxRecDepth 100000 in
theorem ct_J6_numberOfTrailingZeros_0f7a4 {l : Launch} {G : GT_g} {M : Mem_m} (x0 : Int) (o_x0 : ok_i x0) {z : Int} (h : f_J6_numberOfTrailingZeros_0f7a4 G.2.2.2 M x0 = some z) : MI_ l yJ6_numberOfTrailingZeros_0f7a4 K_J6_numberOfTrailingZeros_0f7a4 (some .int) G M [iv_i x0] M z :=
  met_of (by decide +kernel) rfl (Nat.le_of_ble_eq_true rfl) (fun X hl C hR => by subst hl; exact t_J6_numberOfTrailingZeros_0f7a4 C hR x0 o_x0 h)
theorem d_X2_chooseParts_0 : decode cX2_chooseParts 0 = .ok (.aload_n 0, 1) := by decide +kernel
theorem d_X2_chooseParts_1 : decode cX2_chooseParts 1 = .ok (.iconst 0, 1) := by decide +kernel
theorem d_X2_chooseParts_2 : decode cX2_chooseParts 2 = .ok (.putfield 83, 3) := by decide +kernel
theorem d_X2_chooseParts_5 : decode cX2_chooseParts 5 = .ok (.aload_n 0, 1) := by decide +kernel
theorem d_X2_chooseParts_6 : decode cX2_chooseParts 6 = .ok (.iconst 0, 1) := by decide +kernel
theorem d_X2_chooseParts_7 : decode cX2_chooseParts 7 = .ok (.putfield 86, 3) := by decide +kernel
theorem d_X2_chooseParts_10 : decode cX2_chooseParts 10 = .ok (.aload_n 0, 1) := by decide +kernel
theorem d_X2_chooseParts_11 : decode cX2_chooseParts 11 = .ok (.iconst 0, 1) := by decide +kernel
theorem d_X2_chooseParts_12 : decode cX2_chooseParts 12 = .ok (.putfield 89, 3) := by decide +kernel
theorem d_X2_chooseParts_15 : decode cX2_chooseParts 15 = .ok (.iconst 0, 1) := by decide +kernel
theorem d_X2_chooseParts_16 : decode cX2_chooseParts 16 = .ok (.istore_n 3, 1) := by decide +kernel
theorem d_X2_chooseParts_17 : decode cX2_chooseParts 17 = .ok (.iload_n 3, 1) := by decide +kernel
theorem d_X2_chooseParts_18 : decode cX2_chooseParts 18 = .ok (.aload_n 1, 1) := by decide +kernel
theorem d_X2_chooseParts_19 : decode cX2_chooseParts 19 = .ok (.getfield 37, 3) := by decide +kernel
theorem d_X2_chooseParts_22 : decode cX2_chooseParts 22 = .ok (.if_icmp .ge 116, 3) := by decide +kernel
theorem d_X2_chooseParts_25 : decode cX2_chooseParts 25 = .ok (.aload_n 0, 1) := by decide +kernel
theorem d_X2_chooseParts_26 : decode cX2_chooseParts 26 = .ok (.iload_n 3, 1) := by decide +kernel
theorem d_X2_chooseParts_27 : decode cX2_chooseParts 27 = .ok (.aload_n 1, 1) := by decide +kernel
theorem d_X2_chooseParts_28 : decode cX2_chooseParts 28 = .ok (.getfield 37, 3) := by decide +kernel
theorem d_X2_chooseParts_31 : decode cX2_chooseParts 31 = .ok (.iload_n 2, 1) := by decide +kernel
theorem d_X2_chooseParts_32 : decode cX2_chooseParts 32 = .ok (.invokevirtual 92, 3) := by decide +kernel
theorem d_X2_chooseParts_35 : decode cX2_chooseParts 35 = .ok (.istore 4, 2) := by decide +kernel
theorem d_X2_chooseParts_37 : decode cX2_chooseParts 37 = .ok (.iload 4, 2) := by decide +kernel
theorem d_X2_chooseParts_39 : decode cX2_chooseParts 39 = .ok (.ifCond .le 49, 3) := by decide +kernel
theorem d_X2_chooseParts_42 : decode cX2_chooseParts 42 = .ok (.aload_n 0, 1) := by decide +kernel
theorem d_X2_chooseParts_43 : decode cX2_chooseParts 43 = .ok (.getfield 11, 3) := by decide +kernel
theorem d_X2_chooseParts_46 : decode cX2_chooseParts 46 = .ok (.iload_n 3, 1) := by decide +kernel
theorem d_X2_chooseParts_47 : decode cX2_chooseParts 47 = .ok (.bipush 9, 2) := by decide +kernel
theorem d_X2_chooseParts_49 : decode cX2_chooseParts 49 = .ok (.imul, 1) := by decide +kernel
theorem d_X2_chooseParts_50 : decode cX2_chooseParts 50 = .ok (.iload 4, 2) := by decide +kernel
theorem d_X2_chooseParts_52 : decode cX2_chooseParts 52 = .ok (.iadd, 1) := by decide +kernel
theorem d_X2_chooseParts_53 : decode cX2_chooseParts 53 = .ok (.iaload, 1) := by decide +kernel
theorem d_X2_chooseParts_54 : decode cX2_chooseParts 54 = .ok (.iload_n 2, 1) := by decide +kernel
theorem d_X2_chooseParts_55 : decode cX2_chooseParts 55 = .ok (.iand, 1) := by decide +kernel
theorem d_X2_chooseParts_56 : decode cX2_chooseParts 56 = .ok (.invokestatic 96, 3) := by decide +kernel
theorem d_X2_chooseParts_59 : decode cX2_chooseParts 59 = .ok (.istore 5, 2) := by decide +kernel
theorem d_X2_chooseParts_61 : decode cX2_chooseParts 61 = .ok (.aload_n 0, 1) := by decide +kernel
theorem d_X2_chooseParts_62 : decode cX2_chooseParts 62 = .ok (.getfield 18, 3) := by decide +kernel
theorem d_X2_chooseParts_65 : decode cX2_chooseParts 65 = .ok (.aload_n 0, 1) := by decide +kernel
theorem d_X2_chooseParts_66 : decode cX2_chooseParts 66 = .ok (.getfield 83, 3) := by decide +kernel
theorem d_X2_chooseParts_69 : decode cX2_chooseParts 69 = .ok (.iload 5, 2) := by decide +kernel
theorem d_X2_chooseParts_71 : decode cX2_chooseParts 71 = .ok (.iastore, 1) := by decide +kernel
theorem d_X2_chooseParts_72 : decode cX2_chooseParts 72 = .ok (.aload_n 0, 1) := by decide +kernel
theorem d_X2_chooseParts_73 : decode cX2_chooseParts 73 = .ok (.dup, 1) := by decide +kernel
theorem d_X2_chooseParts_74 : decode cX2_chooseParts 74 = .ok (.getfield 86, 3) := by decide +kernel
theorem d_X2_chooseParts_77 : decode cX2_chooseParts 77 = .ok (.iconst 1, 1) := by decide +kernel
theorem d_X2_chooseParts_78 : decode cX2_chooseParts 78 = .ok (.iload 5, 2) := by decide +kernel
theorem d_X2_chooseParts_80 : decode cX2_chooseParts 80 = .ok (.ishl, 1) := by decide +kernel
theorem d_X2_chooseParts_81 : decode cX2_chooseParts 81 = .ok (.ior, 1) := by decide +kernel
theorem d_X2_chooseParts_82 : decode cX2_chooseParts 82 = .ok (.putfield 86, 3) := by decide +kernel
theorem d_X2_chooseParts_85 : decode cX2_chooseParts 85 = .ok (.goto 31, 3) := by decide +kernel
theorem d_X2_chooseParts_88 : decode cX2_chooseParts 88 = .ok (.aload_n 0, 1) := by decide +kernel
theorem d_X2_chooseParts_89 : decode cX2_chooseParts 89 = .ok (.getfield 18, 3) := by decide +kernel
theorem d_X2_chooseParts_92 : decode cX2_chooseParts 92 = .ok (.aload_n 0, 1) := by decide +kernel
theorem d_X2_chooseParts_93 : decode cX2_chooseParts 93 = .ok (.getfield 83, 3) := by decide +kernel
theorem d_X2_chooseParts_96 : decode cX2_chooseParts 96 = .ok (.bipush 100, 2) := by decide +kernel
theorem d_X2_chooseParts_98 : decode cX2_chooseParts 98 = .ok (.aload_n 1, 1) := by decide +kernel
theorem d_X2_chooseParts_99 : decode cX2_chooseParts 99 = .ok (.getfield 102, 3) := by decide +kernel
theorem d_X2_chooseParts_102 : decode cX2_chooseParts 102 = .ok (.iload_n 3, 1) := by decide +kernel
theorem d_X2_chooseParts_103 : decode cX2_chooseParts 103 = .ok (.iaload, 1) := by decide +kernel
theorem d_X2_chooseParts_104 : decode cX2_chooseParts 104 = .ok (.iadd, 1) := by decide +kernel
theorem d_X2_chooseParts_105 : decode cX2_chooseParts 105 = .ok (.iastore, 1) := by decide +kernel
theorem d_X2_chooseParts_106 : decode cX2_chooseParts 106 = .ok (.aload_n 0, 1) := by decide +kernel
theorem d_X2_chooseParts_107 : decode cX2_chooseParts 107 = .ok (.dup, 1) := by decide +kernel
theorem d_X2_chooseParts_108 : decode cX2_chooseParts 108 = .ok (.getfield 89, 3) := by decide +kernel
theorem d_X2_chooseParts_111 : decode cX2_chooseParts 111 = .ok (.iconst 1, 1) := by decide +kernel
theorem d_X2_chooseParts_112 : decode cX2_chooseParts 112 = .ok (.iadd, 1) := by decide +kernel
theorem d_X2_chooseParts_113 : decode cX2_chooseParts 113 = .ok (.putfield 89, 3) := by decide +kernel
theorem d_X2_chooseParts_116 : decode cX2_chooseParts 116 = .ok (.aload_n 0, 1) := by decide +kernel
theorem d_X2_chooseParts_117 : decode cX2_chooseParts 117 = .ok (.dup, 1) := by decide +kernel
theorem d_X2_chooseParts_118 : decode cX2_chooseParts 118 = .ok (.getfield 83, 3) := by decide +kernel
theorem d_X2_chooseParts_121 : decode cX2_chooseParts 121 = .ok (.iconst 1, 1) := by decide +kernel
theorem d_X2_chooseParts_122 : decode cX2_chooseParts 122 = .ok (.iadd, 1) := by decide +kernel
theorem d_X2_chooseParts_123 : decode cX2_chooseParts 123 = .ok (.putfield 83, 3) := by decide +kernel
theorem d_X2_chooseParts_126 : decode cX2_chooseParts 126 = .ok (.iload_n 3, 1) := by decide +kernel
theorem d_X2_chooseParts_127 : decode cX2_chooseParts 127 = .ok (.iload 4, 2) := by decide +kernel
theorem d_X2_chooseParts_129 : decode cX2_chooseParts 129 = .ok (.iconst 1, 1) := by decide +kernel
theorem d_X2_chooseParts_130 : decode cX2_chooseParts 130 = .ok (.invokestatic 105, 3) := by decide +kernel
theorem d_X2_chooseParts_133 : decode cX2_chooseParts 133 = .ok (.iadd, 1) := by decide +kernel
theorem d_X2_chooseParts_134 : decode cX2_chooseParts 134 = .ok (.istore_n 3, 1) := by decide +kernel
theorem d_X2_chooseParts_135 : decode cX2_chooseParts 135 = .ok (.goto (-118), 3) := by decide +kernel
theorem d_X2_chooseParts_138 : decode cX2_chooseParts 138 = .ok (.return_, 1) := by decide +kernel
set_option maxHeartbeats 4000000 in
set_option maxRecDepth 100000 in
theorem t_X2_chooseParts_116 {X : XT_x} {G : GT_g} {z : Mem_m} (C : Cx_ (K_X2_chooseParts) X G) (hR : Rx_ X G none) (M : Mem_m) (x0 : Nat) (x1 : Nat) (x2 : Int) (x3 : Int) (x4 : Int) (o_x2 : ok_i x2) (o_x3 : ok_i x3) (o_x4 : ok_i x4) (k_17 : Mem_m → Int → Option Mem_m) (hk_17 : ∀ (M : Mem_m) (x3 : Int) (o_x3 : ok_i x3), k_17 M x3 = some z → V_ (K_X2_chooseParts) X G (Fq_ X G (Qv_ G z)) M 17 [(0, .ref (G.1 + x0)), (1, .ref (G.1 + x1)), (2, iv_i x2), (3, iv_i x3)] []) (h : f_X2_chooseParts_116 G.2.2.2 k_17 M x0 x1 x2 x3 x4 = some z) : V_ (K_X2_chooseParts) X G (Fq_ X G (Qv_ G z)) M 116 [(0, .ref (G.1 + x0)), (1, .ref (G.1 + x1)), (2, iv_i x2), (3, iv_i x3), (4, iv_i x4)] [] := by
  unfold f_X2_chooseParts_116 at h
  refine V_aload_n (j := 0) C d_X2_chooseParts_116 rfl rfl ?_
  refine V_dup C d_X2_chooseParts_117 rfl ?_
  refine V_getI C ck_2 fw_X2_83 d_X2_chooseParts_118 h (fun v1 o1 h => ?_)
  refine V_iconst C d_X2_chooseParts_121 ?_
  refine V_iadd C d_X2_chooseParts_122 ?_
  refine V_putI C ck_2 fw_X2_83 fp_2_3 d_X2_chooseParts_123 (ok_wr _) h (fun M2 h => ?_)
  refine V_iload_n (j := 3) C d_X2_chooseParts_126 rfl rfl ?_
  refine V_iload (j := 4) C d_X2_chooseParts_127 rfl ?_
  refine V_iconst C d_X2_chooseParts_129 ?_
  refine V_mmax C l1_X2_105 mm_max (by decide) (Nat.le_of_ble_eq_true rfl) d_X2_chooseParts_130 o_x4 (okc rfl) ?_
  refine V_iadd C d_X2_chooseParts_133 ?_
  refine V_istore_n (lv' := [(3, iv_i (wr_i (x3 + (max x4 1)))), (0, .ref (G.1 + x0)), (1, .ref (G.1 + x1)), (2, iv_i x2), (4, iv_i x4)]) C d_X2_chooseParts_134 rfl (by decide) rfl ?_
  refine V_goto (tgt := 17) C d_X2_chooseParts_135 (by decide) ?_
  refine V_lv [1, 2, 3, 0] rfl (hk_17 M2 (wr_i (x3 + (max x4 1))) (ok_wr _) h)
set_option maxHeartbeats 4000000 in
set_option maxRecDepth 100000 in
theorem t_X2_chooseParts_17 {X : XT_x} {G : GT_g} {z : Mem_m} (C : Cx_ (K_X2_chooseParts) X G) (hR : Rx_ X G none) (x0 : Nat) (x1 : Nat) (x2 : Int) (o_x2 : ok_i x2) : ∀ (n : Nat) (M : Mem_m) (x3 : Int) (o_x3 : ok_i x3), f_X2_chooseParts_17 G.2.2.2 x0 x1 x2 n M x3 = some z → V_ (K_X2_chooseParts) X G (Fq_ X G (Qv_ G z)) M 17 [(0, .ref (G.1 + x0)), (1, .ref (G.1 + x1)), (2, iv_i x2), (3, iv_i x3)] [] := by
  intro n
  induction n with
  | zero => intro M x3 o_x3 h; exact absurd h (by simp [f_X2_chooseParts_17])
  | succ n ih =>
    intro M x3 o_x3 h
    unfold f_X2_chooseParts_17 at h
    refine V_iload_n (j := 3) C d_X2_chooseParts_17 rfl rfl ?_
    refine V_aload_n (j := 1) C d_X2_chooseParts_18 rfl rfl ?_
    refine V_getI C ck_10 fw_X2_37 d_X2_chooseParts_19 h (fun v1 o1 h => ?_)
    refine V_icmp_ge (tgt := 138) C d_X2_chooseParts_22 (by decide) o_x3 o1 h (fun h => ?_) (fun h => ?_)
    · skip
      refine V_aload_n (j := 0) C d_X2_chooseParts_25 rfl rfl ?_
      refine V_iload_n (j := 3) C d_X2_chooseParts_26 rfl rfl ?_
      refine V_aload_n (j := 1) C d_X2_chooseParts_27 rfl rfl ?_
      refine V_getI C ck_10 fw_X2_37 d_X2_chooseParts_28 h (fun v2 o2 h => ?_)
      refine V_iload_n (j := 2) C d_X2_chooseParts_31 rfl rfl ?_
      refine V_callVri (K' := K_X2_longestNote) (a := x0) (ci := 2) (av := [iv_i x3, iv_i v2, iv_i x2]) (rest := []) yi_X2_longestNote (by decide) rfl C (yk_X2_longestNote) l1_X2_92 (by decide) d_X2_chooseParts_32 (fun v hv => ct_X2_longestNote x0 x3 v2 x2 o_x3 o2 o_x2 hv) rfl rfl (Nat.le_of_ble_eq_true rfl) h (fun v3 o3 h => ?_)
      refine V_istore (lv' := [(4, iv_i v3), (0, .ref (G.1 + x0)), (1, .ref (G.1 + x1)), (2, iv_i x2), (3, iv_i x3)]) C d_X2_chooseParts_35 (by decide) rfl ?_
      refine V_iload (j := 0) C d_X2_chooseParts_37 rfl ?_
      refine V_if_le (tgt := 88) C d_X2_chooseParts_39 (by decide) o3 h (fun h => ?_) (fun h => ?_)
      · skip
        refine V_aload_n (j := 1) C d_X2_chooseParts_88 rfl rfl ?_
        refine V_getR C ck_2 fw_X2_18 d_X2_chooseParts_89 h (fun v4 h => ?_)
        refine V_aload_n (j := 1) C d_X2_chooseParts_92 rfl rfl ?_
        refine V_getI C ck_2 fw_X2_83 d_X2_chooseParts_93 h (fun v5 o5 h => ?_)
        refine V_bipush (v := 100) C d_X2_chooseParts_96 rfl ?_
        refine V_aload_n (j := 2) C d_X2_chooseParts_98 rfl rfl ?_
        refine V_getR C ck_10 fw_X2_102 d_X2_chooseParts_99 h (fun v6 h => ?_)
        refine V_iload_n (j := 4) C d_X2_chooseParts_102 rfl rfl ?_
        refine V_iald C d_X2_chooseParts_103 o_x3 h (fun v7 o7 h => ?_)
        refine V_iadd C d_X2_chooseParts_104 ?_
        refine V_iast C d_X2_chooseParts_105 o5 (ok_wr _) h (fun M8 h => ?_)
        refine V_aload_n (j := 1) C d_X2_chooseParts_106 rfl rfl ?_
        refine V_dup C d_X2_chooseParts_107 rfl ?_
        refine V_getI C ck_2 fw_X2_89 d_X2_chooseParts_108 h (fun v9 o9 h => ?_)
        refine V_iconst C d_X2_chooseParts_111 ?_
        refine V_iadd C d_X2_chooseParts_112 ?_
        refine V_putI C ck_2 fw_X2_89 fp_2_5 d_X2_chooseParts_113 (ok_wr _) h (fun M10 h => ?_)
        refine V_lv [1, 2, 3, 4, 0] rfl (t_X2_chooseParts_116 C hR M10 x0 x1 x2 x3 v3 o_x2 o_x3 o3 (fun M x3 => f_X2_chooseParts_17 G.2.2.2 x0 x1 x2 n M x3) (fun M x3 o_x3 h9 => ih M x3 o_x3 h9) h)
      · skip
        refine V_aload_n (j := 1) C d_X2_chooseParts_42 rfl rfl ?_
        refine V_getR C ck_2 fw_X2_11 d_X2_chooseParts_43 h (fun v11 h => ?_)
        refine V_iload_n (j := 4) C d_X2_chooseParts_46 rfl rfl ?_
        refine V_bipush (v := 9) C d_X2_chooseParts_47 rfl ?_
        refine V_imul C d_X2_chooseParts_49 ?_
        refine V_iload (j := 0) C d_X2_chooseParts_50 rfl ?_
        refine V_iadd C d_X2_chooseParts_52 ?_
        refine V_iald C d_X2_chooseParts_53 (ok_wr _) h (fun v12 o12 h => ?_)
        refine V_iload_n (j := 3) C d_X2_chooseParts_54 rfl rfl ?_
        refine V_iand C d_X2_chooseParts_55 ?_
        refine V_callSri (K' := K_J6_numberOfTrailingZeros_0f7a4) (av := [iv_i (an_i v12 x2)]) (rest := []) ys_J6_numberOfTrailingZeros_0f7a4 C (yk_J6_numberOfTrailingZeros_0f7a4) l1_X2_96 (by decide) d_X2_chooseParts_56 (fun v hv => ct_J6_numberOfTrailingZeros_0f7a4 (an_i v12 x2) (ok_I _) hv) rfl rfl (Nat.le_of_ble_eq_true rfl) h (fun v13 o13 h => ?_)
        refine V_istore (lv' := [(5, iv_i v13), (4, iv_i v3), (0, .ref (G.1 + x0)), (1, .ref (G.1 + x1)), (2, iv_i x2), (3, iv_i x3)]) C d_X2_chooseParts_59 (by decide) rfl ?_
        refine V_aload_n (j := 2) C d_X2_chooseParts_61 rfl rfl ?_
        refine V_getR C ck_2 fw_X2_18 d_X2_chooseParts_62 h (fun v14 h => ?_)
        refine V_aload_n (j := 2) C d_X2_chooseParts_65 rfl rfl ?_
        refine V_getI C ck_2 fw_X2_83 d_X2_chooseParts_66 h (fun v15 o15 h => ?_)
        refine V_iload (j := 0) C d_X2_chooseParts_69 rfl ?_
        refine V_iast C d_X2_chooseParts_71 o15 o13 h (fun M16 h => ?_)
        refine V_aload_n (j := 2) C d_X2_chooseParts_72 rfl rfl ?_
        refine V_dup C d_X2_chooseParts_73 rfl ?_
        refine V_getI C ck_2 fw_X2_86 d_X2_chooseParts_74 h (fun v17 o17 h => ?_)
        refine V_iconst C d_X2_chooseParts_77 ?_
        refine V_iload (j := 0) C d_X2_chooseParts_78 rfl ?_
        refine V_ishl C d_X2_chooseParts_80 ?_
        refine V_ior C d_X2_chooseParts_81 ?_
        refine V_putI C ck_2 fw_X2_86 fp_2_4 d_X2_chooseParts_82 (ok_I _) h (fun M18 h => ?_)
        refine V_goto (tgt := 116) C d_X2_chooseParts_85 (by decide) ?_
        refine V_lv [2, 3, 4, 5, 1] rfl (t_X2_chooseParts_116 C hR M18 x0 x1 x2 x3 v3 o_x2 o_x3 o3 (fun M x3 => f_X2_chooseParts_17 G.2.2.2 x0 x1 x2 n M x3) (fun M x3 o_x3 h9 => ih M x3 o_x3 h9) h)
    · skip
      exact V_vret C hR d_X2_chooseParts_138 (Option.some.inj h)
set_option maxHeartbeats 4000000 in
set_option maxRecDepth 100000 in
theorem t_X2_chooseParts {X : XT_x} {G : GT_g} {M : Mem_m} {z : Mem_m} (C : Cx_ (K_X2_chooseParts) X G) (hR : Rx_ X G none) (x0 : Nat) (x1 : Nat) (x2 : Int) (o_x2 : ok_i x2) (h : f_X2_chooseParts G.2.2.2 M x0 x1 x2 = some z) : V_ (K_X2_chooseParts) X G (Fq_ X G (Qv_ G z)) M 0 [(0, .ref (G.1 + x0)), (1, .ref (G.1 + x1)), (2, iv_i x2)] [] := by
  unfold f_X2_chooseParts at h
  refine V_aload_n (j := 0) C d_X2_chooseParts_0 rfl rfl ?_
  refine V_iconst C d_X2_chooseParts_1 ?_
  refine V_putI C ck_2 fw_X2_83 fp_2_3 d_X2_chooseParts_2 (okc rfl) h (fun M1 h => ?_)
  refine V_aload_n (j := 0) C d_X2_chooseParts_5 rfl rfl ?_
  refine V_iconst C d_X2_chooseParts_6 ?_
  refine V_putI C ck_2 fw_X2_86 fp_2_4 d_X2_chooseParts_7 (okc rfl) h (fun M2 h => ?_)
  refine V_aload_n (j := 0) C d_X2_chooseParts_10 rfl rfl ?_
  refine V_iconst C d_X2_chooseParts_11 ?_
  refine V_putI C ck_2 fw_X2_89 fp_2_5 d_X2_chooseParts_12 (okc rfl) h (fun M3 h => ?_)
  refine V_iconst C d_X2_chooseParts_15 ?_
  refine V_istore_n (lv' := [(3, iv_i 0), (0, .ref (G.1 + x0)), (1, .ref (G.1 + x1)), (2, iv_i x2)]) C d_X2_chooseParts_16 rfl (by decide) rfl ?_
  refine V_lv [1, 2, 3, 0] rfl (t_X2_chooseParts_17 C hR x0 x1 x2 o_x2 FU_ M3 0 (okc rfl) h)
set_option maxHeartbeats 4000000 in
set_option maxRecDepth 100000 in
theorem ct_X2_chooseParts {l : Launch} {G : GT_g} {M : Mem_m} (x0 : Nat) (x1 : Nat) (x2 : Int) (o_x2 : ok_i x2) {z : Mem_m} (h : f_X2_chooseParts G.2.2.2 M x0 x1 x2 = some z) : MV_ l yX2_chooseParts K_X2_chooseParts none G M [.ref (G.1 + x0), .ref (G.1 + x1), iv_i x2] z :=
  met_of (by decide +kernel) rfl (Nat.le_of_ble_eq_true rfl) (fun X hl C hR => by subst hl; exact t_X2_chooseParts C hR x0 x1 x2 o_x2 h)
theorem d_X2_cutUp_0 : decode cX2_cutUp 0 = .ok (.aload_n 0, 1) := by decide +kernel
theorem d_X2_cutUp_1 : decode cX2_cutUp 1 = .ok (.aload_n 1, 1) := by decide +kernel
theorem d_X2_cutUp_2 : decode cX2_cutUp 2 = .ok (.aload_n 2, 1) := by decide +kernel
theorem d_X2_cutUp_3 : decode cX2_cutUp 3 = .ok (.getfield 27, 3) := by decide +kernel
theorem d_X2_cutUp_6 : decode cX2_cutUp 6 = .ok (.invokevirtual 33, 3) := by decide +kernel
theorem d_X2_cutUp_9 : decode cX2_cutUp 9 = .ok (.pop, 1) := by decide +kernel
theorem d_X2_cutUp_10 : decode cX2_cutUp 10 = .ok (.aload_n 0, 1) := by decide +kernel
theorem d_X2_cutUp_11 : decode cX2_cutUp 11 = .ok (.aload_n 2, 1) := by decide +kernel
theorem d_X2_cutUp_12 : decode cX2_cutUp 12 = .ok (.getfield 27, 3) := by decide +kernel
theorem d_X2_cutUp_15 : decode cX2_cutUp 15 = .ok (.getfield 37, 3) := by decide +kernel
theorem d_X2_cutUp_18 : decode cX2_cutUp 18 = .ok (.aload_n 1, 1) := by decide +kernel
theorem d_X2_cutUp_19 : decode cX2_cutUp 19 = .ok (.getfield 43, 3) := by decide +kernel
theorem d_X2_cutUp_22 : decode cX2_cutUp 22 = .ok (.invokevirtual 48, 3) := by decide +kernel
theorem d_X2_cutUp_25 : decode cX2_cutUp 25 = .ok (.pop, 1) := by decide +kernel
theorem d_X2_cutUp_26 : decode cX2_cutUp 26 = .ok (.aload_n 0, 1) := by decide +kernel
theorem d_X2_cutUp_27 : decode cX2_cutUp 27 = .ok (.aload_n 2, 1) := by decide +kernel
theorem d_X2_cutUp_28 : decode cX2_cutUp 28 = .ok (.getfield 27, 3) := by decide +kernel
theorem d_X2_cutUp_31 : decode cX2_cutUp 31 = .ok (.aload_n 1, 1) := by decide +kernel
theorem d_X2_cutUp_32 : decode cX2_cutUp 32 = .ok (.getfield 43, 3) := by decide +kernel
theorem d_X2_cutUp_35 : decode cX2_cutUp 35 = .ok (.invokevirtual 52, 3) := by decide +kernel
theorem d_X2_cutUp_38 : decode cX2_cutUp 38 = .ok (.return_, 1) := by decide +kernel
set_option maxHeartbeats 4000000 in
set_option maxRecDepth 100000 in
theorem t_X2_cutUp {X : XT_x} {G : GT_g} {M : Mem_m} {z : Mem_m} (C : Cx_ (K_X2_cutUp) X G) (hR : Rx_ X G none) (x0 : Nat) (x1 : Nat) (x2 : Nat)  (h : f_X2_cutUp G.2.2.2 M x0 x1 x2 = some z) : V_ (K_X2_cutUp) X G (Fq_ X G (Qv_ G z)) M 0 [(0, .ref (G.1 + x0)), (1, .ref (G.1 + x1)), (2, .ref (G.1 + x2))] [] := by
  unfold f_X2_cutUp at h
  refine V_aload_n (j := 0) C d_X2_cutUp_0 rfl rfl ?_
  refine V_aload_n (j := 1) C d_X2_cutUp_1 rfl rfl ?_
  refine V_aload_n (j := 2) C d_X2_cutUp_2 rfl rfl ?_
  refine V_getR C ck_1 fw_X2_27 d_X2_cutUp_3 h (fun v1 h => ?_)
  refine V_callVwi (K' := K_X2_findStanding) (a := x0) (ci := 2) (av := [.ref (G.1 + x1), .ref (G.1 + v1)]) (rest := []) yi_X2_findStanding (by decide) rfl C (yk_X2_findStanding) l1_X2_33 (by decide) d_X2_cutUp_6 (fun v hv => ct_X2_findStanding x0 x1 v1 hv) rfl rfl (Nat.le_of_ble_eq_true rfl) h (fun z2 o2 h => ?_)
  refine V_pop C d_X2_cutUp_9 rfl ?_
  refine V_aload_n (j := 0) C d_X2_cutUp_10 rfl rfl ?_
  refine V_aload_n (j := 2) C d_X2_cutUp_11 rfl rfl ?_
  refine V_getR C ck_1 fw_X2_27 d_X2_cutUp_12 h (fun v3 h => ?_)
  refine V_getI C ck_10 fw_X2_37 d_X2_cutUp_15 h (fun v4 o4 h => ?_)
  refine V_aload_n (j := 1) C d_X2_cutUp_18 rfl rfl ?_
  refine V_getI C ck_0 fw_X2_43 d_X2_cutUp_19 h (fun v5 o5 h => ?_)
  refine V_callVwi (K' := K_X2_leastCost) (a := x0) (ci := 2) (av := [iv_i v4, iv_i v5]) (rest := []) yi_X2_leastCost (by decide) rfl C (yk_X2_leastCost) l1_X2_48 (by decide) d_X2_cutUp_22 (fun v hv => ct_X2_leastCost x0 v4 v5 o4 o5 hv) rfl rfl (Nat.le_of_ble_eq_true rfl) h (fun z6 o6 h => ?_)
  refine V_pop C d_X2_cutUp_25 rfl ?_
  refine V_aload_n (j := 0) C d_X2_cutUp_26 rfl rfl ?_
  refine V_aload_n (j := 2) C d_X2_cutUp_27 rfl rfl ?_
  refine V_getR C ck_1 fw_X2_27 d_X2_cutUp_28 h (fun v7 h => ?_)
  refine V_aload_n (j := 1) C d_X2_cutUp_31 rfl rfl ?_
  refine V_getI C ck_0 fw_X2_43 d_X2_cutUp_32 h (fun v8 o8 h => ?_)
  refine V_callVwv (K' := K_X2_chooseParts) (a := x0) (ci := 2) (av := [.ref (G.1 + v7), iv_i v8]) (rest := []) yi_X2_chooseParts (by decide) rfl C (yk_X2_chooseParts) l1_X2_52 (by decide) d_X2_cutUp_35 (fun v hv => ct_X2_chooseParts x0 v7 v8 o8 hv) rfl rfl (Nat.le_of_ble_eq_true rfl) h (fun M9 h => ?_)
  exact V_vret C hR d_X2_cutUp_38 (Option.some.inj h)
set_option maxHeartbeats 4000000 in
set_option maxRecDepth 100000 in
theorem ct_X2_cutUp {l : Launch} {G : GT_g} {M : Mem_m} (x0 : Nat) (x1 : Nat) (x2 : Nat)  {z : Mem_m} (h : f_X2_cutUp G.2.2.2 M x0 x1 x2 = some z) : MV_ l yX2_cutUp K_X2_cutUp none G M [.ref (G.1 + x0), .ref (G.1 + x1), .ref (G.1 + x2)] z :=
  met_of (by decide +kernel) rfl (Nat.le_of_ble_eq_true rfl) (fun X hl C hR => by subst hl; exact t_X2_cutUp C hR x0 x1 x2  h)
theorem d_X2_addCosts_0 : decode cX2_addCosts 0 = .ok (.aload_n 0, 1) := by decide +kernel
theorem d_X2_addCosts_1 : decode cX2_addCosts 1 = .ok (.aload_n 1, 1) := by decide +kernel
theorem d_X2_addCosts_2 : decode cX2_addCosts 2 = .ok (.aload_n 2, 1) := by decide +kernel
theorem d_X2_addCosts_3 : decode cX2_addCosts 3 = .ok (.invokevirtual 33, 3) := by decide +kernel
theorem d_X2_addCosts_6 : decode cX2_addCosts 6 = .ok (.istore 5, 2) := by decide +kernel
theorem d_X2_addCosts_8 : decode cX2_addCosts 8 = .ok (.iconst 0, 1) := by decide +kernel
theorem d_X2_addCosts_9 : decode cX2_addCosts 9 = .ok (.istore 6, 2) := by decide +kernel
theorem d_X2_addCosts_11 : decode cX2_addCosts 11 = .ok (.iload 6, 2) := by decide +kernel
theorem d_X2_addCosts_13 : decode cX2_addCosts 13 = .ok (.iload_n 3, 1) := by decide +kernel
theorem d_X2_addCosts_14 : decode cX2_addCosts 14 = .ok (.if_icmp .ge 70, 3) := by decide +kernel
theorem d_X2_addCosts_17 : decode cX2_addCosts 17 = .ok (.iload 6, 2) := by decide +kernel
theorem d_X2_addCosts_19 : decode cX2_addCosts 19 = .ok (.iload 5, 2) := by decide +kernel
theorem d_X2_addCosts_21 : decode cX2_addCosts 21 = .ok (.iand, 1) := by decide +kernel
theorem d_X2_addCosts_22 : decode cX2_addCosts 22 = .ok (.istore 7, 2) := by decide +kernel
theorem d_X2_addCosts_24 : decode cX2_addCosts 24 = .ok (.aload_n 0, 1) := by decide +kernel
theorem d_X2_addCosts_25 : decode cX2_addCosts 25 = .ok (.getfield 21, 3) := by decide +kernel
theorem d_X2_addCosts_28 : decode cX2_addCosts 28 = .ok (.iload 6, 2) := by decide +kernel
theorem d_X2_addCosts_30 : decode cX2_addCosts 30 = .ok (.iload 7, 2) := by decide +kernel
theorem d_X2_addCosts_32 : decode cX2_addCosts 32 = .ok (.iload 6, 2) := by decide +kernel
theorem d_X2_addCosts_34 : decode cX2_addCosts 34 = .ok (.if_icmp .ne 19, 3) := by decide +kernel
theorem d_X2_addCosts_37 : decode cX2_addCosts 37 = .ok (.aload_n 0, 1) := by decide +kernel
theorem d_X2_addCosts_38 : decode cX2_addCosts 38 = .ok (.aload_n 2, 1) := by decide +kernel
theorem d_X2_addCosts_39 : decode cX2_addCosts 39 = .ok (.getfield 37, 3) := by decide +kernel
theorem d_X2_addCosts_42 : decode cX2_addCosts 42 = .ok (.iload 6, 2) := by decide +kernel
theorem d_X2_addCosts_44 : decode cX2_addCosts 44 = .ok (.iload 4, 2) := by decide +kernel
theorem d_X2_addCosts_46 : decode cX2_addCosts 46 = .ok (.ior, 1) := by decide +kernel
theorem d_X2_addCosts_47 : decode cX2_addCosts 47 = .ok (.invokevirtual 48, 3) := by decide +kernel
theorem d_X2_addCosts_50 : decode cX2_addCosts 50 = .ok (.goto 10, 3) := by decide +kernel
theorem d_X2_addCosts_53 : decode cX2_addCosts 53 = .ok (.aload_n 0, 1) := by decide +kernel
theorem d_X2_addCosts_54 : decode cX2_addCosts 54 = .ok (.getfield 21, 3) := by decide +kernel
theorem d_X2_addCosts_57 : decode cX2_addCosts 57 = .ok (.iload 7, 2) := by decide +kernel
theorem d_X2_addCosts_59 : decode cX2_addCosts 59 = .ok (.iaload, 1) := by decide +kernel
theorem d_X2_addCosts_60 : decode cX2_addCosts 60 = .ok (.iastore, 1) := by decide +kernel
theorem d_X2_addCosts_61 : decode cX2_addCosts 61 = .ok (.aload_n 0, 1) := by decide +kernel
theorem d_X2_addCosts_62 : decode cX2_addCosts 62 = .ok (.getfield 24, 3) := by decide +kernel
theorem d_X2_addCosts_65 : decode cX2_addCosts 65 = .ok (.iload 6, 2) := by decide +kernel
theorem d_X2_addCosts_67 : decode cX2_addCosts 67 = .ok (.dup2, 1) := by decide +kernel
theorem d_X2_addCosts_68 : decode cX2_addCosts 68 = .ok (.iaload, 1) := by decide +kernel
theorem d_X2_addCosts_69 : decode cX2_addCosts 69 = .ok (.aload_n 0, 1) := by decide +kernel
theorem d_X2_addCosts_70 : decode cX2_addCosts 70 = .ok (.getfield 21, 3) := by decide +kernel
theorem d_X2_addCosts_73 : decode cX2_addCosts 73 = .ok (.iload 6, 2) := by decide +kernel
theorem d_X2_addCosts_75 : decode cX2_addCosts 75 = .ok (.iaload, 1) := by decide +kernel
theorem d_X2_addCosts_76 : decode cX2_addCosts 76 = .ok (.iadd, 1) := by decide +kernel
theorem d_X2_addCosts_77 : decode cX2_addCosts 77 = .ok (.iastore, 1) := by decide +kernel
theorem d_X2_addCosts_78 : decode cX2_addCosts 78 = .ok (.iinc 6 1, 3) := by decide +kernel
theorem d_X2_addCosts_81 : decode cX2_addCosts 81 = .ok (.goto (-70), 3) := by decide +kernel
theorem d_X2_addCosts_84 : decode cX2_addCosts 84 = .ok (.return_, 1) := by decide +kernel
set_option maxHeartbeats 4000000 in
set_option maxRecDepth 100000 in
theorem t_X2_addCosts_60 {X : XT_x} {G : GT_g} {z : Mem_m} (C : Cx_ (K_X2_addCosts) X G) (hR : Rx_ X G none) (M : Mem_m) (x0 : Nat) (x2 : Nat) (x3 : Int) (x4 : Int) (x5 : Int) (x6 : Int) (s0 : Int) (s1 : Int) (s2 : Nat) (o_x3 : ok_i x3) (o_x4 : ok_i x4) (o_x5 : ok_i x5) (o_x6 : ok_i x6) (o_s0 : ok_i s0) (o_s1 : ok_i s1) (k_11 : Mem_m → Int → Option Mem_m) (hk_11 : ∀ (M : Mem_m) (x6 : Int) (o_x6 : ok_i x6), k_11 M x6 = some z → V_ (K_X2_addCosts) X G (Fq_ X G (Qv_ G z)) M 11 [(0, .ref (G.1 + x0)), (2, .ref (G.1 + x2)), (3, iv_i x3), (4, iv_i x4), (5, iv_i x5), (6, iv_i x6)] []) (h : f_X2_addCosts_60 G.2.2.2 k_11 M x0 x2 x3 x4 x5 x6 s0 s1 s2 = some z) : V_ (K_X2_addCosts) X G (Fq_ X G (Qv_ G z)) M 60 [(0, .ref (G.1 + x0)), (2, .ref (G.1 + x2)), (3, iv_i x3), (4, iv_i x4), (5, iv_i x5), (6, iv_i x6)] [iv_i s0, iv_i s1, .ref (G.1 + s2)] := by
  unfold f_X2_addCosts_60 at h
  refine V_iast C d_X2_addCosts_60 o_s1 o_s0 h (fun M1 h => ?_)
  refine V_aload_n (j := 0) C d_X2_addCosts_61 rfl rfl ?_
  refine V_getR C ck_2 fw_X2_24 d_X2_addCosts_62 h (fun v2 h => ?_)
  refine V_iload (j := 5) C d_X2_addCosts_65 rfl ?_
  refine V_dup2 C d_X2_addCosts_67 rfl rfl ?_
  refine V_iald C d_X2_addCosts_68 o_x6 h (fun v3 o3 h => ?_)
  refine V_aload_n (j := 0) C d_X2_addCosts_69 rfl rfl ?_
  refine V_getR C ck_2 fw_X2_21 d_X2_addCosts_70 h (fun v4 h => ?_)
  refine V_iload (j := 5) C d_X2_addCosts_73 rfl ?_
  refine V_iald C d_X2_addCosts_75 o_x6 h (fun v5 o5 h => ?_)
  refine V_iadd C d_X2_addCosts_76 ?_
  refine V_iast C d_X2_addCosts_77 o_x6 (ok_wr _) h (fun M6 h => ?_)
  refine V_iinc (j := 5) (lv' := [(6, iv_i (wr_i (x6 + 1))), (0, .ref (G.1 + x0)), (2, .ref (G.1 + x2)), (3, iv_i x3), (4, iv_i x4), (5, iv_i x5)]) C d_X2_addCosts_78 rfl (by decide) rfl ?_
  refine V_goto (tgt := 11) C d_X2_addCosts_81 (by decide) ?_
  refine V_lv [1, 2, 3, 4, 5, 0] rfl (hk_11 M6 (wr_i (x6 + 1)) (ok_wr _) h)
set_option maxHeartbeats 4000000 in
set_option maxRecDepth 100000 in
theorem t_X2_addCosts_11 {X : XT_x} {G : GT_g} {z : Mem_m} (C : Cx_ (K_X2_addCosts) X G) (hR : Rx_ X G none) (x0 : Nat) (x2 : Nat) (x3 : Int) (x4 : Int) (x5 : Int) (o_x3 : ok_i x3) (o_x4 : ok_i x4) (o_x5 : ok_i x5) : ∀ (n : Nat) (M : Mem_m) (x6 : Int) (o_x6 : ok_i x6), f_X2_addCosts_11 G.2.2.2 x0 x2 x3 x4 x5 n M x6 = some z → V_ (K_X2_addCosts) X G (Fq_ X G (Qv_ G z)) M 11 [(0, .ref (G.1 + x0)), (2, .ref (G.1 + x2)), (3, iv_i x3), (4, iv_i x4), (5, iv_i x5), (6, iv_i x6)] [] := by
  intro n
  induction n with
  | zero => intro M x6 o_x6 h; exact absurd h (by simp [f_X2_addCosts_11])
  | succ n ih =>
    intro M x6 o_x6 h
    unfold f_X2_addCosts_11 at h
    refine V_iload (j := 5) C d_X2_addCosts_11 rfl ?_
    refine V_iload_n (j := 2) C d_X2_addCosts_13 rfl rfl ?_
    refine V_icmp_ge (tgt := 84) C d_X2_addCosts_14 (by decide) o_x6 o_x3 h (fun h => ?_) (fun h => ?_)
    · skip
      refine V_iload (j := 5) C d_X2_addCosts_17 rfl ?_
      refine V_iload (j := 4) C d_X2_addCosts_19 rfl ?_
      refine V_iand C d_X2_addCosts_21 ?_
      refine V_istore (lv' := [(7, iv_i (an_i x6 x5)), (0, .ref (G.1 + x0)), (2, .ref (G.1 + x2)), (3, iv_i x3), (4, iv_i x4), (5, iv_i x5), (6, iv_i x6)]) C d_X2_addCosts_22 (by decide) rfl ?_
      refine V_aload_n (j := 1) C d_X2_addCosts_24 rfl rfl ?_
      refine V_getR C ck_2 fw_X2_21 d_X2_addCosts_25 h (fun v1 h => ?_)
      refine V_iload (j := 6) C d_X2_addCosts_28 rfl ?_
      refine V_iload (j := 0) C d_X2_addCosts_30 rfl ?_
      refine V_iload (j := 6) C d_X2_addCosts_32 rfl ?_
      refine V_icmp_ne (tgt := 53) C d_X2_addCosts_34 (by decide) (ok_I _) o_x6 h (fun h => ?_) (fun h => ?_)
      · skip
        refine V_aload_n (j := 1) C d_X2_addCosts_37 rfl rfl ?_
        refine V_aload_n (j := 2) C d_X2_addCosts_38 rfl rfl ?_
        refine V_getI C ck_10 fw_X2_37 d_X2_addCosts_39 h (fun v2 o2 h => ?_)
        refine V_iload (j := 6) C d_X2_addCosts_42 rfl ?_
        refine V_iload (j := 4) C d_X2_addCosts_44 rfl ?_
        refine V_ior C d_X2_addCosts_46 ?_
        refine V_callVwi (K' := K_X2_leastCost) (a := x0) (ci := 2) (av := [iv_i v2, iv_i (or_i x6 x4)]) (rest := [iv_i x6, .ref (G.1 + v1)]) yi_X2_leastCost (by decide) rfl C (yk_X2_leastCost) l1_X2_48 (by decide) d_X2_addCosts_47 (fun v hv => ct_X2_leastCost x0 v2 (or_i x6 x4) o2 (ok_I _) hv) rfl rfl (Nat.le_of_ble_eq_true rfl) h (fun z3 o3 h => ?_)
        refine V_goto (tgt := 60) C d_X2_addCosts_50 (by decide) ?_
        refine V_lv [1, 2, 3, 4, 5, 6] rfl (t_X2_addCosts_60 C hR z3.1 x0 x2 x3 x4 x5 x6 z3.2 x6 v1 o_x3 o_x4 o_x5 o_x6 o3 o_x6 (fun M x6 => f_X2_addCosts_11 G.2.2.2 x0 x2 x3 x4 x5 n M x6) (fun M x6 o_x6 h9 => ih M x6 o_x6 h9) h)
      · skip
        refine V_aload_n (j := 1) C d_X2_addCosts_53 rfl rfl ?_
        refine V_getR C ck_2 fw_X2_21 d_X2_addCosts_54 h (fun v4 h => ?_)
        refine V_iload (j := 0) C d_X2_addCosts_57 rfl ?_
        refine V_iald C d_X2_addCosts_59 (ok_I _) h (fun v5 o5 h => ?_)
        refine V_lv [1, 2, 3, 4, 5, 6] rfl (t_X2_addCosts_60 C hR M x0 x2 x3 x4 x5 x6 v5 x6 v1 o_x3 o_x4 o_x5 o_x6 o5 o_x6 (fun M x6 => f_X2_addCosts_11 G.2.2.2 x0 x2 x3 x4 x5 n M x6) (fun M x6 o_x6 h9 => ih M x6 o_x6 h9) h)
    · skip
      exact V_vret C hR d_X2_addCosts_84 (Option.some.inj h)
set_option maxHeartbeats 4000000 in
set_option maxRecDepth 100000 in
theorem t_X2_addCosts {X : XT_x} {G : GT_g} {M : Mem_m} {z : Mem_m} (C : Cx_ (K_X2_addCosts) X G) (hR : Rx_ X G none) (x0 : Nat) (x1 : Nat) (x2 : Nat) (x3 : Int) (x4 : Int) (o_x3 : ok_i x3) (o_x4 : ok_i x4) (h : f_X2_addCosts G.2.2.2 M x0 x1 x2 x3 x4 = some z) : V_ (K_X2_addCosts) X G (Fq_ X G (Qv_ G z)) M 0 [(0, .ref (G.1 + x0)), (1, .ref (G.1 + x1)), (2, .ref (G.1 + x2)), (3, iv_i x3), (4, iv_i x4)] [] := by
  unfold f_X2_addCosts at h
  refine V_aload_n (j := 0) C d_X2_addCosts_0 rfl rfl ?_
  refine V_aload_n (j := 1) C d_X2_addCosts_1 rfl rfl ?_
  refine V_aload_n (j := 2) C d_X2_addCosts_2 rfl rfl ?_
  refine V_callVwi (K' := K_X2_findStanding) (a := x0) (ci := 2) (av := [.ref (G.1 + x1), .ref (G.1 + x2)]) (rest := []) yi_X2_findStanding (by decide) rfl C (yk_X2_findStanding) l1_X2_33 (by decide) d_X2_addCosts_3 (fun v hv => ct_X2_findStanding x0 x1 x2 hv) rfl rfl (Nat.le_of_ble_eq_true rfl) h (fun z1 o1 h => ?_)
  refine V_istore (lv' := [(5, iv_i z1.2), (0, .ref (G.1 + x0)), (1, .ref (G.1 + x1)), (2, .ref (G.1 + x2)), (3, iv_i x3), (4, iv_i x4)]) C d_X2_addCosts_6 (by decide) rfl ?_
  refine V_iconst C d_X2_addCosts_8 ?_
  refine V_istore (lv' := [(6, iv_i 0), (5, iv_i z1.2), (0, .ref (G.1 + x0)), (1, .ref (G.1 + x1)), (2, .ref (G.1 + x2)), (3, iv_i x3), (4, iv_i x4)]) C d_X2_addCosts_9 (by decide) rfl ?_
  refine V_lv [2, 4, 5, 6, 1, 0] rfl (t_X2_addCosts_11 C hR x0 x2 x3 x4 z1.2 o_x3 o_x4 o1 FU_ z1.1 0 (okc rfl) h)
set_option maxHeartbeats 4000000 in
set_option maxRecDepth 100000 in
theorem ct_X2_addCosts {l : Launch} {G : GT_g} {M : Mem_m} (x0 : Nat) (x1 : Nat) (x2 : Nat) (x3 : Int) (x4 : Int) (o_x3 : ok_i x3) (o_x4 : ok_i x4) {z : Mem_m} (h : f_X2_addCosts G.2.2.2 M x0 x1 x2 x3 x4 = some z) : MV_ l yX2_addCosts K_X2_addCosts none G M [.ref (G.1 + x0), .ref (G.1 + x1), .ref (G.1 + x2), iv_i x3, iv_i x4] z :=
  met_of (by decide +kernel) rfl (Nat.le_of_ble_eq_true rfl) (fun X hl C hR => by subst hl; exact t_X2_addCosts C hR x0 x1 x2 x3 x4 o_x3 o_x4 h)
theorem d_X2_findLeastList_0 : decode cX2_findLeastList 0 = .ok (.iconst 1, 1) := by decide +kernel
theorem d_X2_findLeastList_1 : decode cX2_findLeastList 1 = .ok (.aload_n 1, 1) := by decide +kernel
theorem d_X2_findLeastList_2 : decode cX2_findLeastList 2 = .ok (.getfield 62, 3) := by decide +kernel
theorem d_X2_findLeastList_5 : decode cX2_findLeastList 5 = .ok (.bipush 10, 2) := by decide +kernel
theorem d_X2_findLeastList_7 : decode cX2_findLeastList 7 = .ok (.invokestatic 78, 3) := by decide +kernel
theorem d_X2_findLeastList_10 : decode cX2_findLeastList 10 = .ok (.ishl, 1) := by decide +kernel
theorem d_X2_findLeastList_11 : decode cX2_findLeastList 11 = .ok (.istore_n 2, 1) := by decide +kernel
theorem d_X2_findLeastList_12 : decode cX2_findLeastList 12 = .ok (.aload_n 1, 1) := by decide +kernel
theorem d_X2_findLeastList_13 : decode cX2_findLeastList 13 = .ok (.getfield 43, 3) := by decide +kernel
theorem d_X2_findLeastList_16 : decode cX2_findLeastList 16 = .ok (.sipush (-1024), 3) := by decide +kernel
theorem d_X2_findLeastList_19 : decode cX2_findLeastList 19 = .ok (.iand, 1) := by decide +kernel
theorem d_X2_findLeastList_20 : decode cX2_findLeastList 20 = .ok (.istore_n 3, 1) := by decide +kernel
theorem d_X2_findLeastList_21 : decode cX2_findLeastList 21 = .ok (.iconst 0, 1) := by decide +kernel
theorem d_X2_findLeastList_22 : decode cX2_findLeastList 22 = .ok (.istore 4, 2) := by decide +kernel
theorem d_X2_findLeastList_24 : decode cX2_findLeastList 24 = .ok (.iload 4, 2) := by decide +kernel
theorem d_X2_findLeastList_26 : decode cX2_findLeastList 26 = .ok (.iload_n 2, 1) := by decide +kernel
theorem d_X2_findLeastList_27 : decode cX2_findLeastList 27 = .ok (.if_icmp .ge 24, 3) := by decide +kernel
theorem d_X2_findLeastList_30 : decode cX2_findLeastList 30 = .ok (.aload_n 0, 1) := by decide +kernel
theorem d_X2_findLeastList_31 : decode cX2_findLeastList 31 = .ok (.getfield 24, 3) := by decide +kernel
theorem d_X2_findLeastList_34 : decode cX2_findLeastList 34 = .ok (.iload 4, 2) := by decide +kernel
theorem d_X2_findLeastList_36 : decode cX2_findLeastList 36 = .ok (.aload_n 1, 1) := by decide +kernel
theorem d_X2_findLeastList_37 : decode cX2_findLeastList 37 = .ok (.iload 4, 2) := by decide +kernel
theorem d_X2_findLeastList_39 : decode cX2_findLeastList 39 = .ok (.iload_n 3, 1) := by decide +kernel
theorem d_X2_findLeastList_40 : decode cX2_findLeastList 40 = .ok (.ior, 1) := by decide +kernel
theorem d_X2_findLeastList_41 : decode cX2_findLeastList 41 = .ok (.invokevirtual 108, 3) := by decide +kernel
theorem d_X2_findLeastList_44 : decode cX2_findLeastList 44 = .ok (.iastore, 1) := by decide +kernel
theorem d_X2_findLeastList_45 : decode cX2_findLeastList 45 = .ok (.iinc 4 1, 3) := by decide +kernel
theorem d_X2_findLeastList_48 : decode cX2_findLeastList 48 = .ok (.goto (-24), 3) := by decide +kernel
theorem d_X2_findLeastList_51 : decode cX2_findLeastList 51 = .ok (.iconst 0, 1) := by decide +kernel
theorem d_X2_findLeastList_52 : decode cX2_findLeastList 52 = .ok (.istore 4, 2) := by decide +kernel
theorem d_X2_findLeastList_54 : decode cX2_findLeastList 54 = .ok (.iload 4, 2) := by decide +kernel
theorem d_X2_findLeastList_56 : decode cX2_findLeastList 56 = .ok (.aload_n 1, 1) := by decide +kernel
theorem d_X2_findLeastList_57 : decode cX2_findLeastList 57 = .ok (.getfield 111, 3) := by decide +kernel
theorem d_X2_findLeastList_60 : decode cX2_findLeastList 60 = .ok (.if_icmp .ge 39, 3) := by decide +kernel
theorem d_X2_findLeastList_63 : decode cX2_findLeastList 63 = .ok (.aload_n 1, 1) := by decide +kernel
theorem d_X2_findLeastList_64 : decode cX2_findLeastList 64 = .ok (.getfield 114, 3) := by decide +kernel
theorem d_X2_findLeastList_67 : decode cX2_findLeastList 67 = .ok (.iload 4, 2) := by decide +kernel
theorem d_X2_findLeastList_69 : decode cX2_findLeastList 69 = .ok (.aaload, 1) := by decide +kernel
theorem d_X2_findLeastList_70 : decode cX2_findLeastList 70 = .ok (.invokevirtual 118, 3) := by decide +kernel
theorem d_X2_findLeastList_73 : decode cX2_findLeastList 73 = .ok (.ifCond .eq 20, 3) := by decide +kernel
theorem d_X2_findLeastList_76 : decode cX2_findLeastList 76 = .ok (.aload_n 0, 1) := by decide +kernel
theorem d_X2_findLeastList_77 : decode cX2_findLeastList 77 = .ok (.aload_n 1, 1) := by decide +kernel
theorem d_X2_findLeastList_78 : decode cX2_findLeastList 78 = .ok (.aload_n 1, 1) := by decide +kernel
theorem d_X2_findLeastList_79 : decode cX2_findLeastList 79 = .ok (.getfield 114, 3) := by decide +kernel
theorem d_X2_findLeastList_82 : decode cX2_findLeastList 82 = .ok (.iload 4, 2) := by decide +kernel
theorem d_X2_findLeastList_84 : decode cX2_findLeastList 84 = .ok (.aaload, 1) := by decide +kernel
theorem d_X2_findLeastList_85 : decode cX2_findLeastList 85 = .ok (.getfield 27, 3) := by decide +kernel
theorem d_X2_findLeastList_88 : decode cX2_findLeastList 88 = .ok (.iload_n 2, 1) := by decide +kernel
theorem d_X2_findLeastList_89 : decode cX2_findLeastList 89 = .ok (.iload_n 3, 1) := by decide +kernel
theorem d_X2_findLeastList_90 : decode cX2_findLeastList 90 = .ok (.invokevirtual 122, 3) := by decide +kernel
theorem d_X2_findLeastList_93 : decode cX2_findLeastList 93 = .ok (.iinc 4 1, 3) := by decide +kernel
theorem d_X2_findLeastList_96 : decode cX2_findLeastList 96 = .ok (.goto (-42), 3) := by decide +kernel
theorem d_X2_findLeastList_99 : decode cX2_findLeastList 99 = .ok (.aload_n 0, 1) := by decide +kernel
theorem d_X2_findLeastList_100 : decode cX2_findLeastList 100 = .ok (.iconst 0, 1) := by decide +kernel
theorem d_X2_findLeastList_101 : decode cX2_findLeastList 101 = .ok (.putfield 126, 3) := by decide +kernel
theorem d_X2_findLeastList_104 : decode cX2_findLeastList 104 = .ok (.iconst 1, 1) := by decide +kernel
theorem d_X2_findLeastList_105 : decode cX2_findLeastList 105 = .ok (.istore 4, 2) := by decide +kernel
theorem d_X2_findLeastList_107 : decode cX2_findLeastList 107 = .ok (.iload 4, 2) := by decide +kernel
theorem d_X2_findLeastList_109 : decode cX2_findLeastList 109 = .ok (.iload_n 2, 1) := by decide +kernel
theorem d_X2_findLeastList_110 : decode cX2_findLeastList 110 = .ok (.if_icmp .ge 34, 3) := by decide +kernel
theorem d_X2_findLeastList_113 : decode cX2_findLeastList 113 = .ok (.aload_n 0, 1) := by decide +kernel
theorem d_X2_findLeastList_114 : decode cX2_findLeastList 114 = .ok (.getfield 24, 3) := by decide +kernel
theorem d_X2_findLeastList_117 : decode cX2_findLeastList 117 = .ok (.iload 4, 2) := by decide +kernel
theorem d_X2_findLeastList_119 : decode cX2_findLeastList 119 = .ok (.iaload, 1) := by decide +kernel
theorem d_X2_findLeastList_120 : decode cX2_findLeastList 120 = .ok (.aload_n 0, 1) := by decide +kernel
theorem d_X2_findLeastList_121 : decode cX2_findLeastList 121 = .ok (.getfield 24, 3) := by decide +kernel
theorem d_X2_findLeastList_124 : decode cX2_findLeastList 124 = .ok (.aload_n 0, 1) := by decide +kernel
theorem d_X2_findLeastList_125 : decode cX2_findLeastList 125 = .ok (.getfield 126, 3) := by decide +kernel
theorem d_X2_findLeastList_128 : decode cX2_findLeastList 128 = .ok (.iaload, 1) := by decide +kernel
theorem d_X2_findLeastList_129 : decode cX2_findLeastList 129 = .ok (.if_icmp .ge 9, 3) := by decide +kernel
theorem d_X2_findLeastList_132 : decode cX2_findLeastList 132 = .ok (.aload_n 0, 1) := by decide +kernel
theorem d_X2_findLeastList_133 : decode cX2_findLeastList 133 = .ok (.iload 4, 2) := by decide +kernel
theorem d_X2_findLeastList_135 : decode cX2_findLeastList 135 = .ok (.putfield 126, 3) := by decide +kernel
theorem d_X2_findLeastList_138 : decode cX2_findLeastList 138 = .ok (.iinc 4 1, 3) := by decide +kernel
theorem d_X2_findLeastList_141 : decode cX2_findLeastList 141 = .ok (.goto (-34), 3) := by decide +kernel
theorem d_X2_findLeastList_144 : decode cX2_findLeastList 144 = .ok (.aload_n 0, 1) := by decide +kernel
theorem d_X2_findLeastList_145 : decode cX2_findLeastList 145 = .ok (.aload_n 0, 1) := by decide +kernel
theorem d_X2_findLeastList_146 : decode cX2_findLeastList 146 = .ok (.getfield 24, 3) := by decide +kernel
theorem d_X2_findLeastList_149 : decode cX2_findLeastList 149 = .ok (.aload_n 0, 1) := by decide +kernel
theorem d_X2_findLeastList_150 : decode cX2_findLeastList 150 = .ok (.getfield 126, 3) := by decide +kernel
theorem d_X2_findLeastList_153 : decode cX2_findLeastList 153 = .ok (.iaload, 1) := by decide +kernel
theorem d_X2_findLeastList_154 : decode cX2_findLeastList 154 = .ok (.putfield 129, 3) := by decide +kernel
theorem d_X2_findLeastList_157 : decode cX2_findLeastList 157 = .ok (.return_, 1) := by decide +kernel
set_option maxHeartbeats 4000000 in
set_option maxRecDepth 100000 in
theorem t_X2_findLeastList_107 {X : XT_x} {G : GT_g} {z : Mem_m} (C : Cx_ (K_X2_findLeastList) X G) (hR : Rx_ X G none) (x0 : Nat) (x2 : Int) (o_x2 : ok_i x2) : ∀ (n : Nat) (M : Mem_m) (x4 : Int) (o_x4 : ok_i x4), f_X2_findLeastList_107 G.2.2.2 x0 x2 n M x4 = some z → V_ (K_X2_findLeastList) X G (Fq_ X G (Qv_ G z)) M 107 [(0, .ref (G.1 + x0)), (2, iv_i x2), (4, iv_i x4)] [] := by
  intro n
  induction n with
  | zero => intro M x4 o_x4 h; exact absurd h (by simp [f_X2_findLeastList_107])
  | succ n ih =>
    intro M x4 o_x4 h
    unfold f_X2_findLeastList_107 at h
    refine V_iload (j := 2) C d_X2_findLeastList_107 rfl ?_
    refine V_iload_n (j := 1) C d_X2_findLeastList_109 rfl rfl ?_
    refine V_icmp_ge (tgt := 144) C d_X2_findLeastList_110 (by decide) o_x4 o_x2 h (fun h => ?_) (fun h => ?_)
    · skip
      refine V_aload_n (j := 0) C d_X2_findLeastList_113 rfl rfl ?_
      refine V_getR C ck_2 fw_X2_24 d_X2_findLeastList_114 h (fun v1 h => ?_)
      refine V_iload (j := 2) C d_X2_findLeastList_117 rfl ?_
      refine V_iald C d_X2_findLeastList_119 o_x4 h (fun v2 o2 h => ?_)
      refine V_aload_n (j := 0) C d_X2_findLeastList_120 rfl rfl ?_
      refine V_getR C ck_2 fw_X2_24 d_X2_findLeastList_121 h (fun v3 h => ?_)
      refine V_aload_n (j := 0) C d_X2_findLeastList_124 rfl rfl ?_
      refine V_getI C ck_2 fw_X2_126 d_X2_findLeastList_125 h (fun v4 o4 h => ?_)
      refine V_iald C d_X2_findLeastList_128 o4 h (fun v5 o5 h => ?_)
      refine V_icmp_ge (tgt := 138) C d_X2_findLeastList_129 (by decide) o2 o5 h (fun h => ?_) (fun h => ?_)
      · skip
        refine V_aload_n (j := 0) C d_X2_findLeastList_132 rfl rfl ?_
        refine V_iload (j := 2) C d_X2_findLeastList_133 rfl ?_
        refine V_putI C ck_2 fw_X2_126 fp_2_9 d_X2_findLeastList_135 o_x4 h (fun M6 h => ?_)
        refine V_iinc (j := 2) (lv' := [(4, iv_i (wr_i (x4 + 1))), (0, .ref (G.1 + x0)), (2, iv_i x2)]) C d_X2_findLeastList_138 rfl (by decide) rfl ?_
        refine V_goto (tgt := 107) C d_X2_findLeastList_141 (by decide) ?_
        refine V_lv [1, 2, 0] rfl (ih M6 (wr_i (x4 + 1)) (ok_wr _) h)
      · skip
        refine V_iinc (j := 2) (lv' := [(4, iv_i (wr_i (x4 + 1))), (0, .ref (G.1 + x0)), (2, iv_i x2)]) C d_X2_findLeastList_138 rfl (by decide) rfl ?_
        refine V_goto (tgt := 107) C d_X2_findLeastList_141 (by decide) ?_
        refine V_lv [1, 2, 0] rfl (ih M (wr_i (x4 + 1)) (ok_wr _) h)
    · skip
      refine V_aload_n (j := 0) C d_X2_findLeastList_144 rfl rfl ?_
      refine V_aload_n (j := 0) C d_X2_findLeastList_145 rfl rfl ?_
      refine V_getR C ck_2 fw_X2_24 d_X2_findLeastList_146 h (fun v7 h => ?_)
      refine V_aload_n (j := 0) C d_X2_findLeastList_149 rfl rfl ?_
      refine V_getI C ck_2 fw_X2_126 d_X2_findLeastList_150 h (fun v8 o8 h => ?_)
      refine V_iald C d_X2_findLeastList_153 o8 h (fun v9 o9 h => ?_)
      refine V_putI C ck_2 fw_X2_129 fp_2_8 d_X2_findLeastList_154 o9 h (fun M10 h => ?_)
      exact V_vret C hR d_X2_findLeastList_157 (Option.some.inj h)
set_option maxHeartbeats 4000000 in
set_option maxRecDepth 100000 in
theorem t_X2_findLeastList_54 {X : XT_x} {G : GT_g} {z : Mem_m} (C : Cx_ (K_X2_findLeastList) X G) (hR : Rx_ X G none) (x0 : Nat) (x1 : Nat) (x2 : Int) (x3 : Int) (o_x2 : ok_i x2) (o_x3 : ok_i x3) : ∀ (n : Nat) (M : Mem_m) (x4 : Int) (o_x4 : ok_i x4), f_X2_findLeastList_54 G.2.2.2 x0 x1 x2 x3 n M x4 = some z → V_ (K_X2_findLeastList) X G (Fq_ X G (Qv_ G z)) M 54 [(0, .ref (G.1 + x0)), (1, .ref (G.1 + x1)), (2, iv_i x2), (3, iv_i x3), (4, iv_i x4)] [] := by
  intro n
  induction n with
  | zero => intro M x4 o_x4 h; exact absurd h (by simp [f_X2_findLeastList_54])
  | succ n ih =>
    intro M x4 o_x4 h
    unfold f_X2_findLeastList_54 at h
    refine V_iload (j := 4) C d_X2_findLeastList_54 rfl ?_
    refine V_aload_n (j := 1) C d_X2_findLeastList_56 rfl rfl ?_
    refine V_getI C ck_0 fw_X2_111 d_X2_findLeastList_57 h (fun v1 o1 h => ?_)
    refine V_icmp_ge (tgt := 99) C d_X2_findLeastList_60 (by decide) o_x4 o1 h (fun h => ?_) (fun h => ?_)
    · skip
      refine V_aload_n (j := 1) C d_X2_findLeastList_63 rfl rfl ?_
      refine V_getR C ck_0 fw_X2_114 d_X2_findLeastList_64 h (fun v2 h => ?_)
      refine V_iload (j := 4) C d_X2_findLeastList_67 rfl ?_
      refine V_aald (t := 0) C tc_0 d_X2_findLeastList_69 o_x4 h (fun v3 h => ?_)
      refine V_callVri (K' := K_X1_isCounted) (a := v3) (ci := 1) (av := []) (rest := []) yi_X1_isCounted (by decide) rfl C (yk_X1_isCounted) l1_X2_118 (by decide) d_X2_findLeastList_70 (fun v hv => ct_X1_isCounted v3 hv) rfl rfl (Nat.le_of_ble_eq_true rfl) h (fun v4 o4 h => ?_)
      refine V_if_eq (tgt := 93) C d_X2_findLeastList_73 (by decide) o4 h (fun h => ?_) (fun h => ?_)
      · skip
        refine V_iinc (j := 4) (lv' := [(4, iv_i (wr_i (x4 + 1))), (0, .ref (G.1 + x0)), (1, .ref (G.1 + x1)), (2, iv_i x2), (3, iv_i x3)]) C d_X2_findLeastList_93 rfl (by decide) rfl ?_
        refine V_goto (tgt := 54) C d_X2_findLeastList_96 (by decide) ?_
        refine V_lv [1, 2, 3, 4, 0] rfl (ih M (wr_i (x4 + 1)) (ok_wr _) h)
      · skip
        refine V_aload_n (j := 0) C d_X2_findLeastList_76 rfl rfl ?_
        refine V_aload_n (j := 1) C d_X2_findLeastList_77 rfl rfl ?_
        refine V_aload_n (j := 1) C d_X2_findLeastList_78 rfl rfl ?_
        refine V_getR C ck_0 fw_X2_114 d_X2_findLeastList_79 h (fun v5 h => ?_)
        refine V_iload (j := 4) C d_X2_findLeastList_82 rfl ?_
        refine V_aald (t := 0) C tc_0 d_X2_findLeastList_84 o_x4 h (fun v6 h => ?_)
        refine V_getR C ck_1 fw_X2_27 d_X2_findLeastList_85 h (fun v7 h => ?_)
        refine V_iload_n (j := 2) C d_X2_findLeastList_88 rfl rfl ?_
        refine V_iload_n (j := 3) C d_X2_findLeastList_89 rfl rfl ?_
        refine V_callVwv (K' := K_X2_addCosts) (a := x0) (ci := 2) (av := [.ref (G.1 + x1), .ref (G.1 + v7), iv_i x2, iv_i x3]) (rest := []) yi_X2_addCosts (by decide) rfl C (yk_X2_addCosts) l1_X2_122 (by decide) d_X2_findLeastList_90 (fun v hv => ct_X2_addCosts x0 x1 v7 x2 x3 o_x2 o_x3 hv) rfl rfl (Nat.le_of_ble_eq_true rfl) h (fun M8 h => ?_)
        refine V_iinc (j := 4) (lv' := [(4, iv_i (wr_i (x4 + 1))), (0, .ref (G.1 + x0)), (1, .ref (G.1 + x1)), (2, iv_i x2), (3, iv_i x3)]) C d_X2_findLeastList_93 rfl (by decide) rfl ?_
        refine V_goto (tgt := 54) C d_X2_findLeastList_96 (by decide) ?_
        refine V_lv [1, 2, 3, 4, 0] rfl (ih M8 (wr_i (x4 + 1)) (ok_wr _) h)
    · skip
      refine V_aload_n (j := 0) C d_X2_findLeastList_99 rfl rfl ?_
      refine V_iconst C d_X2_findLeastList_100 ?_
      refine V_putI C ck_2 fw_X2_126 fp_2_9 d_X2_findLeastList_101 (okc rfl) h (fun M9 h => ?_)
      refine V_iconst C d_X2_findLeastList_104 ?_
      refine V_istore (lv' := [(4, iv_i 1), (0, .ref (G.1 + x0)), (1, .ref (G.1 + x1)), (2, iv_i x2), (3, iv_i x3)]) C d_X2_findLeastList_105 (by decide) rfl ?_
      refine V_lv [1, 3, 0] rfl (t_X2_findLeastList_107 C hR x0 x2 o_x2 FU_ M9 1 (okc rfl) h)
set_option maxHeartbeats 4000000 in
set_option maxRecDepth 100000 in
theorem t_X2_findLeastList_24 {X : XT_x} {G : GT_g} {z : Mem_m} (C : Cx_ (K_X2_findLeastList) X G) (hR : Rx_ X G none) (x0 : Nat) (x1 : Nat) (x2 : Int) (x3 : Int) (o_x2 : ok_i x2) (o_x3 : ok_i x3) : ∀ (n : Nat) (M : Mem_m) (x4 : Int) (o_x4 : ok_i x4), f_X2_findLeastList_24 G.2.2.2 x0 x1 x2 x3 n M x4 = some z → V_ (K_X2_findLeastList) X G (Fq_ X G (Qv_ G z)) M 24 [(0, .ref (G.1 + x0)), (1, .ref (G.1 + x1)), (2, iv_i x2), (3, iv_i x3), (4, iv_i x4)] [] := by
  intro n
  induction n with
  | zero => intro M x4 o_x4 h; exact absurd h (by simp [f_X2_findLeastList_24])
  | succ n ih =>
    intro M x4 o_x4 h
    unfold f_X2_findLeastList_24 at h
    refine V_iload (j := 4) C d_X2_findLeastList_24 rfl ?_
    refine V_iload_n (j := 2) C d_X2_findLeastList_26 rfl rfl ?_
    refine V_icmp_ge (tgt := 51) C d_X2_findLeastList_27 (by decide) o_x4 o_x2 h (fun h => ?_) (fun h => ?_)
    · skip
      refine V_aload_n (j := 0) C d_X2_findLeastList_30 rfl rfl ?_
      refine V_getR C ck_2 fw_X2_24 d_X2_findLeastList_31 h (fun v1 h => ?_)
      refine V_iload (j := 4) C d_X2_findLeastList_34 rfl ?_
      refine V_aload_n (j := 1) C d_X2_findLeastList_36 rfl rfl ?_
      refine V_iload (j := 4) C d_X2_findLeastList_37 rfl ?_
      refine V_iload_n (j := 3) C d_X2_findLeastList_39 rfl rfl ?_
      refine V_ior C d_X2_findLeastList_40 ?_
      refine V_callVri (K' := K_X0_lengthsOf) (a := x1) (ci := 0) (av := [iv_i (or_i x4 x3)]) (rest := [iv_i x4, .ref (G.1 + v1)]) yi_X0_lengthsOf (by decide) rfl C (yk_X0_lengthsOf) l1_X2_108 (by decide) d_X2_findLeastList_41 (fun v hv => ct_X0_lengthsOf x1 (or_i x4 x3) (ok_I _) hv) rfl rfl (Nat.le_of_ble_eq_true rfl) h (fun v2 o2 h => ?_)
      refine V_iast C d_X2_findLeastList_44 o_x4 o2 h (fun M3 h => ?_)
      refine V_iinc (j := 4) (lv' := [(4, iv_i (wr_i (x4 + 1))), (0, .ref (G.1 + x0)), (1, .ref (G.1 + x1)), (2, iv_i x2), (3, iv_i x3)]) C d_X2_findLeastList_45 rfl (by decide) rfl ?_
      refine V_goto (tgt := 24) C d_X2_findLeastList_48 (by decide) ?_
      refine V_lv [1, 2, 3, 4, 0] rfl (ih M3 (wr_i (x4 + 1)) (ok_wr _) h)
    · skip
      refine V_iconst C d_X2_findLeastList_51 ?_
      refine V_istore (lv' := [(4, iv_i 0), (0, .ref (G.1 + x0)), (1, .ref (G.1 + x1)), (2, iv_i x2), (3, iv_i x3)]) C d_X2_findLeastList_52 (by decide) rfl ?_
      refine V_lv [1, 2, 3, 4, 0] rfl (t_X2_findLeastList_54 C hR x0 x1 x2 x3 o_x2 o_x3 FU_ M 0 (okc rfl) h)
set_option maxHeartbeats 4000000 in
set_option maxRecDepth 100000 in
theorem t_X2_findLeastList {X : XT_x} {G : GT_g} {M : Mem_m} {z : Mem_m} (C : Cx_ (K_X2_findLeastList) X G) (hR : Rx_ X G none) (x0 : Nat) (x1 : Nat)  (h : f_X2_findLeastList G.2.2.2 M x0 x1 = some z) : V_ (K_X2_findLeastList) X G (Fq_ X G (Qv_ G z)) M 0 [(0, .ref (G.1 + x0)), (1, .ref (G.1 + x1))] [] := by
  unfold f_X2_findLeastList at h
  refine V_iconst C d_X2_findLeastList_0 ?_
  refine V_aload_n (j := 1) C d_X2_findLeastList_1 rfl rfl ?_
  refine V_getI C ck_0 fw_X2_62 d_X2_findLeastList_2 h (fun v1 o1 h => ?_)
  refine V_bipush (v := 10) C d_X2_findLeastList_5 rfl ?_
  refine V_mmin C l1_X2_78 mm_min (by decide) (Nat.le_of_ble_eq_true rfl) d_X2_findLeastList_7 o1 (okc rfl) ?_
  refine V_ishl C d_X2_findLeastList_10 ?_
  refine V_istore_n (lv' := [(2, iv_i (sl_i 1 (min v1 10))), (0, .ref (G.1 + x0)), (1, .ref (G.1 + x1))]) C d_X2_findLeastList_11 rfl (by decide) rfl ?_
  refine V_aload_n (j := 2) C d_X2_findLeastList_12 rfl rfl ?_
  refine V_getI C ck_0 fw_X2_43 d_X2_findLeastList_13 h (fun v3 o3 h => ?_)
  refine V_sipush (v := (-1024)) C d_X2_findLeastList_16 rfl ?_
  refine V_iand C d_X2_findLeastList_19 ?_
  refine V_istore_n (lv' := [(3, iv_i (an_i v3 (-1024))), (2, iv_i (sl_i 1 (min v1 10))), (0, .ref (G.1 + x0)), (1, .ref (G.1 + x1))]) C d_X2_findLeastList_20 rfl (by decide) rfl ?_
  refine V_iconst C d_X2_findLeastList_21 ?_
  refine V_istore (lv' := [(4, iv_i 0), (3, iv_i (an_i v3 (-1024))), (2, iv_i (sl_i 1 (min v1 10))), (0, .ref (G.1 + x0)), (1, .ref (G.1 + x1))]) C d_X2_findLeastList_22 (by decide) rfl ?_
  refine V_lv [3, 4, 2, 1, 0] rfl (t_X2_findLeastList_24 C hR x0 x1 (sl_i 1 (min v1 10)) (an_i v3 (-1024)) (ok_I _) (ok_I _) FU_ M 0 (okc rfl) h)
set_option maxHeartbeats 4000000 in
set_option maxRecDepth 100000 in
theorem ct_X2_findLeastList {l : Launch} {G : GT_g} {M : Mem_m} (x0 : Nat) (x1 : Nat)  {z : Mem_m} (h : f_X2_findLeastList G.2.2.2 M x0 x1 = some z) : MV_ l yX2_findLeastList K_X2_findLeastList none G M [.ref (G.1 + x0), .ref (G.1 + x1)] z :=
  met_of (by decide +kernel) rfl (Nat.le_of_ble_eq_true rfl) (fun X hl C hR => by subst hl; exact t_X2_findLeastList C hR x0 x1  h)
theorem d_X3_takeRow_0 : decode cX3_takeRow 0 = .ok (.aload_n 0, 1) := by decide +kernel
theorem d_X3_takeRow_1 : decode cX3_takeRow 1 = .ok (.aload_n 1, 1) := by decide +kernel
theorem d_X3_takeRow_2 : decode cX3_takeRow 2 = .ok (.getfield 23, 3) := by decide +kernel
theorem d_X3_takeRow_5 : decode cX3_takeRow 5 = .ok (.putfield 29, 3) := by decide +kernel
theorem d_X3_takeRow_8 : decode cX3_takeRow 8 = .ok (.aload_n 1, 1) := by decide +kernel
theorem d_X3_takeRow_9 : decode cX3_takeRow 9 = .ok (.getfield 30, 3) := by decide +kernel
theorem d_X3_takeRow_12 : decode cX3_takeRow 12 = .ok (.iconst 0, 1) := by decide +kernel
theorem d_X3_takeRow_13 : decode cX3_takeRow 13 = .ok (.aload_n 0, 1) := by decide +kernel
theorem d_X3_takeRow_14 : decode cX3_takeRow 14 = .ok (.getfield 11, 3) := by decide +kernel
theorem d_X3_takeRow_17 : decode cX3_takeRow 17 = .ok (.iconst 0, 1) := by decide +kernel
theorem d_X3_takeRow_18 : decode cX3_takeRow 18 = .ok (.aload_n 0, 1) := by decide +kernel
theorem d_X3_takeRow_19 : decode cX3_takeRow 19 = .ok (.getfield 29, 3) := by decide +kernel
theorem d_X3_takeRow_22 : decode cX3_takeRow 22 = .ok (.invokestatic 33, 3) := by decide +kernel
theorem d_X3_takeRow_25 : decode cX3_takeRow 25 = .ok (.return_, 1) := by decide +kernel
set_option maxHeartbeats 4000000 in
set_option maxRecDepth 100000 in
theorem t_X3_takeRow {X : XT_x} {G : GT_g} {M : Mem_m} {z : Mem_m} (C : Cx_ (K_X3_takeRow) X G) (hR : Rx_ X G none) (x0 : Nat) (x1 : Nat)  (h : f_X3_takeRow G.2.2.2 M x0 x1 = some z) : V_ (K_X3_takeRow) X G (Fq_ X G (Qv_ G z)) M 0 [(0, .ref (G.1 + x0)), (1, .ref (G.1 + x1))] [] := by
  unfold f_X3_takeRow at h
  refine V_aload_n (j := 0) C d_X3_takeRow_0 rfl rfl ?_
  refine V_aload_n (j := 1) C d_X3_takeRow_1 rfl rfl ?_
  refine V_getI C ck_9 fw_X3_23 d_X3_takeRow_2 h (fun v1 o1 h => ?_)
  refine V_putI C ck_3 fw_X3_29 fp_3_1 d_X3_takeRow_5 o1 h (fun M2 h => ?_)
  refine V_aload_n (j := 1) C d_X3_takeRow_8 rfl rfl ?_
  refine V_getR C ck_9 fw_X3_30 d_X3_takeRow_9 h (fun v3 h => ?_)
  refine V_iconst C d_X3_takeRow_12 ?_
  refine V_aload_n (j := 0) C d_X3_takeRow_13 rfl rfl ?_
  refine V_getR C ck_3 fw_X3_11 d_X3_takeRow_14 h (fun v4 h => ?_)
  refine V_iconst C d_X3_takeRow_17 ?_
  refine V_aload_n (j := 0) C d_X3_takeRow_18 rfl rfl ?_
  refine V_getI C ck_3 fw_X3_29 d_X3_takeRow_19 h (fun v5 o5 h => ?_)
  refine V_copy C l1_X3_33 ac_ok (by decide) (Nat.le_of_ble_eq_true rfl) d_X3_takeRow_22 (okc rfl) (okc rfl) o5 h (fun M6 h => ?_)
  exact V_vret C hR d_X3_takeRow_25 (Option.some.inj h)
set_option maxHeartbeats 4000000 in
set_option maxRecDepth 100000 in
theorem ct_X3_takeRow {l : Launch} {G : GT_g} {M : Mem_m} (x0 : Nat) (x1 : Nat)  {z : Mem_m} (h : f_X3_takeRow G.2.2.2 M x0 x1 = some z) : MV_ l yX3_takeRow K_X3_takeRow none G M [.ref (G.1 + x0), .ref (G.1 + x1)] z :=
  met_of (by decide +kernel) rfl (Nat.le_of_ble_eq_true rfl) (fun X hl C hR => by subst hl; exact t_X3_takeRow C hR x0 x1  h)
theorem d_X9_holdRow_0 : decode cX9_holdRow 0 = .ok (.aload_n 0, 1) := by decide +kernel
theorem d_X9_holdRow_1 : decode cX9_holdRow 1 = .ok (.iconst 2, 1) := by decide +kernel
theorem d_X9_holdRow_2 : decode cX9_holdRow 2 = .ok (.putfield 11, 3) := by decide +kernel
theorem d_X9_holdRow_5 : decode cX9_holdRow 5 = .ok (.aload_n 0, 1) := by decide +kernel
theorem d_X9_holdRow_6 : decode cX9_holdRow 6 = .ok (.iload_n 1, 1) := by decide +kernel
theorem d_X9_holdRow_7 : decode cX9_holdRow 7 = .ok (.putfield 30, 3) := by decide +kernel
theorem d_X9_holdRow_10 : decode cX9_holdRow 10 = .ok (.aload_n 0, 1) := by decide +kernel
theorem d_X9_holdRow_11 : decode cX9_holdRow 11 = .ok (.iload_n 2, 1) := by decide +kernel
theorem d_X9_holdRow_12 : decode cX9_holdRow 12 = .ok (.putfield 33, 3) := by decide +kernel
theorem d_X9_holdRow_15 : decode cX9_holdRow 15 = .ok (.aload_n 0, 1) := by decide +kernel
theorem d_X9_holdRow_16 : decode cX9_holdRow 16 = .ok (.getfield 22, 3) := by decide +kernel
theorem d_X9_holdRow_19 : decode cX9_holdRow 19 = .ok (.iconst 0, 1) := by decide +kernel
theorem d_X9_holdRow_20 : decode cX9_holdRow 20 = .ok (.invokestatic 36, 3) := by decide +kernel
theorem d_X9_holdRow_23 : decode cX9_holdRow 23 = .ok (.return_, 1) := by decide +kernel
set_option maxHeartbeats 4000000 in
set_option maxRecDepth 100000 in
theorem t_X9_holdRow {X : XT_x} {G : GT_g} {M : Mem_m} {z : Mem_m} (C : Cx_ (K_X9_holdRow) X G) (hR : Rx_ X G none) (x0 : Nat) (x1 : Int) (x2 : Int) (o_x1 : ok_i x1) (o_x2 : ok_i x2) (h : f_X9_holdRow G.2.2.2 M x0 x1 x2 = some z) : V_ (K_X9_holdRow) X G (Fq_ X G (Qv_ G z)) M 0 [(0, .ref (G.1 + x0)), (1, iv_i x1), (2, iv_i x2)] [] := by
  unfold f_X9_holdRow at h
  refine V_aload_n (j := 0) C d_X9_holdRow_0 rfl rfl ?_
  refine V_iconst C d_X9_holdRow_1 ?_
  refine V_putI C ck_9 fw_X9_11 fp_9_0 d_X9_holdRow_2 (okc rfl) h (fun M1 h => ?_)
  refine V_aload_n (j := 0) C d_X9_holdRow_5 rfl rfl ?_
  refine V_iload_n (j := 1) C d_X9_holdRow_6 rfl rfl ?_
  refine V_putI C ck_9 fw_X9_30 fp_9_2 d_X9_holdRow_7 o_x1 h (fun M2 h => ?_)
  refine V_aload_n (j := 0) C d_X9_holdRow_10 rfl rfl ?_
  refine V_iload_n (j := 2) C d_X9_holdRow_11 rfl rfl ?_
  refine V_putI C ck_9 fw_X9_33 fp_9_3 d_X9_holdRow_12 o_x2 h (fun M3 h => ?_)
  refine V_aload_n (j := 0) C d_X9_holdRow_15 rfl rfl ?_
  refine V_getR C ck_9 fw_X9_22 d_X9_holdRow_16 h (fun v4 h => ?_)
  refine V_iconst C d_X9_holdRow_19 ?_
  refine V_callSwv (K' := K_J7_fill_53178) (av := [.ref (G.1 + v4), iv_i 0]) (rest := []) ys_J7_fill_53178 C (yk_J7_fill_53178) l1_X9_36 (by decide) d_X9_holdRow_20 (fun v hv => ct_J7_fill_53178 v4 0 (okc rfl) hv) rfl rfl (Nat.le_of_ble_eq_true rfl) h (fun M5 h => ?_)
  exact V_vret C hR d_X9_holdRow_23 (Option.some.inj h)
set_option maxHeartbeats 4000000 in
set_option maxRecDepth 100000 in
theorem ct_X9_holdRow {l : Launch} {G : GT_g} {M : Mem_m} (x0 : Nat) (x1 : Int) (x2 : Int) (o_x1 : ok_i x1) (o_x2 : ok_i x2) {z : Mem_m} (h : f_X9_holdRow G.2.2.2 M x0 x1 x2 = some z) : MV_ l yX9_holdRow K_X9_holdRow none G M [.ref (G.1 + x0), iv_i x1, iv_i x2] z :=
  met_of (by decide +kernel) rfl (Nat.le_of_ble_eq_true rfl) (fun X hl C hR => by subst hl; exact t_X9_holdRow C hR x0 x1 x2 o_x1 o_x2 h)
theorem d_X3_giveRow_0 : decode cX3_giveRow 0 = .ok (.aload_n 1, 1) := by decide +kernel
theorem d_X3_giveRow_1 : decode cX3_giveRow 1 = .ok (.iconst 0, 1) := by decide +kernel
theorem d_X3_giveRow_2 : decode cX3_giveRow 2 = .ok (.aload_n 0, 1) := by decide +kernel
theorem d_X3_giveRow_3 : decode cX3_giveRow 3 = .ok (.getfield 29, 3) := by decide +kernel
theorem d_X3_giveRow_6 : decode cX3_giveRow 6 = .ok (.invokevirtual 39, 3) := by decide +kernel
theorem d_X3_giveRow_9 : decode cX3_giveRow 9 = .ok (.aload_n 0, 1) := by decide +kernel
theorem d_X3_giveRow_10 : decode cX3_giveRow 10 = .ok (.getfield 11, 3) := by decide +kernel
theorem d_X3_giveRow_13 : decode cX3_giveRow 13 = .ok (.iconst 0, 1) := by decide +kernel
theorem d_X3_giveRow_14 : decode cX3_giveRow 14 = .ok (.aload_n 1, 1) := by decide +kernel
theorem d_X3_giveRow_15 : decode cX3_giveRow 15 = .ok (.getfield 30, 3) := by decide +kernel
theorem d_X3_giveRow_18 : decode cX3_giveRow 18 = .ok (.iconst 0, 1) := by decide +kernel
theorem d_X3_giveRow_19 : decode cX3_giveRow 19 = .ok (.aload_n 0, 1) := by decide +kernel
theorem d_X3_giveRow_20 : decode cX3_giveRow 20 = .ok (.getfield 29, 3) := by decide +kernel
theorem d_X3_giveRow_23 : decode cX3_giveRow 23 = .ok (.invokestatic 33, 3) := by decide +kernel
theorem d_X3_giveRow_26 : decode cX3_giveRow 26 = .ok (.return_, 1) := by decide +kernel
set_option maxHeartbeats 4000000 in
set_option maxRecDepth 100000 in
theorem t_X3_giveRow {X : XT_x} {G : GT_g} {M : Mem_m} {z : Mem_m} (C : Cx_ (K_X3_giveRow) X G) (hR : Rx_ X G none) (x0 : Nat) (x1 : Nat)  (h : f_X3_giveRow G.2.2.2 M x0 x1 = some z) : V_ (K_X3_giveRow) X G (Fq_ X G (Qv_ G z)) M 0 [(0, .ref (G.1 + x0)), (1, .ref (G.1 + x1))] [] := by
  unfold f_X3_giveRow at h
  refine V_aload_n (j := 1) C d_X3_giveRow_0 rfl rfl ?_
  refine V_iconst C d_X3_giveRow_1 ?_
  refine V_aload_n (j := 0) C d_X3_giveRow_2 rfl rfl ?_
  refine V_getI C ck_3 fw_X3_29 d_X3_giveRow_3 h (fun v1 o1 h => ?_)
  refine V_callVwv (K' := K_X9_holdRow) (a := x1) (ci := 9) (av := [iv_i 0, iv_i v1]) (rest := []) yi_X9_holdRow (by decide) rfl C (yk_X9_holdRow) l1_X3_39 (by decide) d_X3_giveRow_6 (fun v hv => ct_X9_holdRow x1 0 v1 (okc rfl) o1 hv) rfl rfl (Nat.le_of_ble_eq_true rfl) h (fun M2 h => ?_)
  refine V_aload_n (j := 0) C d_X3_giveRow_9 rfl rfl ?_
  refine V_getR C ck_3 fw_X3_11 d_X3_giveRow_10 h (fun v3 h => ?_)
  refine V_iconst C d_X3_giveRow_13 ?_
  refine V_aload_n (j := 1) C d_X3_giveRow_14 rfl rfl ?_
  refine V_getR C ck_9 fw_X3_30 d_X3_giveRow_15 h (fun v4 h => ?_)
  refine V_iconst C d_X3_giveRow_18 ?_
  refine V_aload_n (j := 0) C d_X3_giveRow_19 rfl rfl ?_
  refine V_getI C ck_3 fw_X3_29 d_X3_giveRow_20 h (fun v5 o5 h => ?_)
  refine V_copy C l1_X3_33 ac_ok (by decide) (Nat.le_of_ble_eq_true rfl) d_X3_giveRow_23 (okc rfl) (okc rfl) o5 h (fun M6 h => ?_)
  exact V_vret C hR d_X3_giveRow_26 (Option.some.inj h)
set_option maxHeartbeats 4000000 in
set_option maxRecDepth 100000 in
theorem ct_X3_giveRow {l : Launch} {G : GT_g} {M : Mem_m} (x0 : Nat) (x1 : Nat)  {z : Mem_m} (h : f_X3_giveRow G.2.2.2 M x0 x1 = some z) : MV_ l yX3_giveRow K_X3_giveRow none G M [.ref (G.1 + x0), .ref (G.1 + x1)] z :=
  met_of (by decide +kernel) rfl (Nat.le_of_ble_eq_true rfl) (fun X hl C hR => by subst hl; exact t_X3_giveRow C hR x0 x1  h)
theorem d_X11_isIn_0 : decode cX11_isIn 0 = .ok (.iload_n 0, 1) := by decide +kernel
theorem d_X11_isIn_1 : decode cX11_isIn 1 = .ok (.ifCond .lt 12, 3) := by decide +kernel
theorem d_X11_isIn_4 : decode cX11_isIn 4 = .ok (.iload_n 0, 1) := by decide +kernel
theorem d_X11_isIn_5 : decode cX11_isIn 5 = .ok (.iload_n 1, 1) := by decide +kernel
theorem d_X11_isIn_6 : decode cX11_isIn 6 = .ok (.if_icmp .ge 7, 3) := by decide +kernel
theorem d_X11_isIn_9 : decode cX11_isIn 9 = .ok (.iconst 1, 1) := by decide +kernel
theorem d_X11_isIn_10 : decode cX11_isIn 10 = .ok (.goto 4, 3) := by decide +kernel
theorem d_X11_isIn_13 : decode cX11_isIn 13 = .ok (.iconst 0, 1) := by decide +kernel
theorem d_X11_isIn_14 : decode cX11_isIn 14 = .ok (.ireturn, 1) := by decide +kernel
set_option maxHeartbeats 4000000 in
set_option maxRecDepth 100000 in
theorem t_X11_isIn {X : XT_x} {G : GT_g} {M : Mem_m} {z : Int} (C : Cx_ (K_X11_isIn) X G) (hR : Rx_ X G (some .boolean)) (x0 : Int) (x1 : Int) (o_x0 : ok_i x0) (o_x1 : ok_i x1) (h : f_X11_isIn G.2.2.2 M x0 x1 = some z) : V_ (K_X11_isIn) X G (Fq_ X G (Qi_ G M z)) M 0 [(0, iv_i x0), (1, iv_i x1)] [] := by
  unfold f_X11_isIn at h
  refine V_iload_n (j := 0) C d_X11_isIn_0 rfl rfl ?_
  refine V_if_lt (tgt := 13) C d_X11_isIn_1 (by decide) o_x0 h (fun h => ?_) (fun h => ?_)
  · skip
    refine V_iconst C d_X11_isIn_13 ?_
    exact V_zret_r C hR d_X11_isIn_14 (Or.inl rfl) h
  · skip
    refine V_iload_n (j := 0) C d_X11_isIn_4 rfl rfl ?_
    refine V_iload_n (j := 1) C d_X11_isIn_5 rfl rfl ?_
    refine V_icmp_ge (tgt := 13) C d_X11_isIn_6 (by decide) o_x0 o_x1 h (fun h => ?_) (fun h => ?_)
    · skip
      refine V_iconst C d_X11_isIn_9 ?_
      refine V_goto (tgt := 14) C d_X11_isIn_10 (by decide) ?_
      exact V_zret_r C hR d_X11_isIn_14 (Or.inr rfl) h
    · skip
      refine V_iconst C d_X11_isIn_13 ?_
      exact V_zret_r C hR d_X11_isIn_14 (Or.inl rfl) h
set_option maxHeartbeats 4000000 in
set_option maxRecDepth 100000 in
theorem ct_X11_isIn {l : Launch} {G : GT_g} {M : Mem_m} (x0 : Int) (x1 : Int) (o_x0 : ok_i x0) (o_x1 : ok_i x1) {z : Int} (h : f_X11_isIn G.2.2.2 M x0 x1 = some z) : MI_ l yX11_isIn K_X11_isIn (some .boolean) G M [iv_i x0, iv_i x1] M z :=
  met_of (by decide +kernel) rfl (Nat.le_of_ble_eq_true rfl) (fun X hl C hR => by subst hl; exact t_X11_isIn C hR x0 x1 o_x0 o_x1 h)
theorem d_X7_agrees_0 : decode cX7_agrees 0 = .ok (.iload_n 0, 1) := by decide +kernel
theorem d_X7_agrees_1 : decode cX7_agrees 1 = .ok (.bipush 15, 2) := by decide +kernel
theorem d_X7_agrees_3 : decode cX7_agrees 3 = .ok (.if_icmp .eq 8, 3) := by decide +kernel
theorem d_X7_agrees_6 : decode cX7_agrees 6 = .ok (.iload_n 0, 1) := by decide +kernel
theorem d_X7_agrees_7 : decode cX7_agrees 7 = .ok (.iload_n 1, 1) := by decide +kernel
theorem d_X7_agrees_8 : decode cX7_agrees 8 = .ok (.if_icmp .ne 5, 3) := by decide +kernel
theorem d_X7_agrees_11 : decode cX7_agrees 11 = .ok (.iconst 1, 1) := by decide +kernel
theorem d_X7_agrees_12 : decode cX7_agrees 12 = .ok (.ireturn, 1) := by decide +kernel
theorem d_X7_agrees_13 : decode cX7_agrees 13 = .ok (.iload_n 1, 1) := by decide +kernel
theorem d_X7_agrees_14 : decode cX7_agrees 14 = .ok (.bipush 10, 2) := by decide +kernel
theorem d_X7_agrees_16 : decode cX7_agrees 16 = .ok (.invokestatic 51, 3) := by decide +kernel
theorem d_X7_agrees_19 : decode cX7_agrees 19 = .ok (.ifCond .eq 17, 3) := by decide +kernel
theorem d_X7_agrees_22 : decode cX7_agrees 22 = .ok (.iload_n 0, 1) := by decide +kernel
theorem d_X7_agrees_23 : decode cX7_agrees 23 = .ok (.bipush 10, 2) := by decide +kernel
theorem d_X7_agrees_25 : decode cX7_agrees 25 = .ok (.aload_n 2, 1) := by decide +kernel
theorem d_X7_agrees_26 : decode cX7_agrees 26 = .ok (.iload_n 1, 1) := by decide +kernel
theorem d_X7_agrees_27 : decode cX7_agrees 27 = .ok (.iaload, 1) := by decide +kernel
theorem d_X7_agrees_28 : decode cX7_agrees 28 = .ok (.iadd, 1) := by decide +kernel
theorem d_X7_agrees_29 : decode cX7_agrees 29 = .ok (.if_icmp .ne 7, 3) := by decide +kernel
theorem d_X7_agrees_32 : decode cX7_agrees 32 = .ok (.iconst 1, 1) := by decide +kernel
theorem d_X7_agrees_33 : decode cX7_agrees 33 = .ok (.goto 4, 3) := by decide +kernel
theorem d_X7_agrees_36 : decode cX7_agrees 36 = .ok (.iconst 0, 1) := by decide +kernel
theorem d_X7_agrees_37 : decode cX7_agrees 37 = .ok (.ireturn, 1) := by decide +kernel
set_option maxHeartbeats 4000000 in
set_option maxRecDepth 100000 in
theorem t_X7_agrees {X : XT_x} {G : GT_g} {M : Mem_m} {z : Int} (C : Cx_ (K_X7_agrees) X G) (hR : Rx_ X G (some .boolean)) (x0 : Int) (x1 : Int) (x2 : Nat) (o_x0 : ok_i x0) (o_x1 : ok_i x1) (h : f_X7_agrees G.2.2.2 M x0 x1 x2 = some z) : V_ (K_X7_agrees) X G (Fq_ X G (Qi_ G M z)) M 0 [(0, iv_i x0), (1, iv_i x1), (2, .ref (G.1 + x2))] [] := by
  unfold f_X7_agrees at h
  refine V_iload_n (j := 0) C d_X7_agrees_0 rfl rfl ?_
  refine V_bipush (v := 15) C d_X7_agrees_1 rfl ?_
  refine V_icmp_eq (tgt := 11) C d_X7_agrees_3 (by decide) o_x0 (okc rfl) h (fun h => ?_) (fun h => ?_)
  · skip
    refine V_iconst C d_X7_agrees_11 ?_
    exact V_zret_r C hR d_X7_agrees_12 (Or.inr rfl) h
  · skip
    refine V_iload_n (j := 0) C d_X7_agrees_6 rfl rfl ?_
    refine V_iload_n (j := 1) C d_X7_agrees_7 rfl rfl ?_
    refine V_icmp_ne (tgt := 13) C d_X7_agrees_8 (by decide) o_x0 o_x1 h (fun h => ?_) (fun h => ?_)
    · skip
      refine V_iconst C d_X7_agrees_11 ?_
      exact V_zret_r C hR d_X7_agrees_12 (Or.inr rfl) h
    · skip
      refine V_iload_n (j := 1) C d_X7_agrees_13 rfl rfl ?_
      refine V_bipush (v := 10) C d_X7_agrees_14 rfl ?_
      refine V_callNri (K' := K_X11_isIn) (av := [iv_i x1, iv_i 10]) (rest := []) ys_X11_isIn C (yk_X11_isIn) l2_X7_51 (by decide) d_X7_agrees_16 (fun v hv => ct_X11_isIn x1 10 o_x1 (okc rfl) hv) rfl rfl (Nat.le_of_ble_eq_true rfl) h (fun v1 o1 h => ?_)
      refine V_if_eq (tgt := 36) C d_X7_agrees_19 (by decide) o1 h (fun h => ?_) (fun h => ?_)
      · skip
        refine V_iconst C d_X7_agrees_36 ?_
        exact V_zret_r C hR d_X7_agrees_37 (Or.inl rfl) h
      · skip
        refine V_iload_n (j := 0) C d_X7_agrees_22 rfl rfl ?_
        refine V_bipush (v := 10) C d_X7_agrees_23 rfl ?_
        refine V_aload_n (j := 2) C d_X7_agrees_25 rfl rfl ?_
        refine V_iload_n (j := 1) C d_X7_agrees_26 rfl rfl ?_
        refine V_iald C d_X7_agrees_27 o_x1 h (fun v2 o2 h => ?_)
        refine V_iadd C d_X7_agrees_28 ?_
        refine V_icmp_ne (tgt := 36) C d_X7_agrees_29 (by decide) o_x0 (ok_wr _) h (fun h => ?_) (fun h => ?_)
        · skip
          refine V_iconst C d_X7_agrees_32 ?_
          refine V_goto (tgt := 37) C d_X7_agrees_33 (by decide) ?_
          exact V_zret_r C hR d_X7_agrees_37 (Or.inr rfl) h
        · skip
          refine V_iconst C d_X7_agrees_36 ?_
          exact V_zret_r C hR d_X7_agrees_37 (Or.inl rfl) h
set_option maxHeartbeats 4000000 in
set_option maxRecDepth 100000 in
theorem ct_X7_agrees {l : Launch} {G : GT_g} {M : Mem_m} (x0 : Int) (x1 : Int) (x2 : Nat) (o_x0 : ok_i x0) (o_x1 : ok_i x1) {z : Int} (h : f_X7_agrees G.2.2.2 M x0 x1 x2 = some z) : MI_ l yX7_agrees K_X7_agrees (some .boolean) G M [iv_i x0, iv_i x1, .ref (G.1 + x2)] M z :=
  met_of (by decide +kernel) rfl (Nat.le_of_ble_eq_true rfl) (fun X hl C hR => by subst hl; exact t_X7_agrees C hR x0 x1 x2 o_x0 o_x1 h)
theorem d_X3_apply_0 : decode cX3_apply 0 = .ok (.iconst 0, 1) := by decide +kernel
theorem d_X3_apply_1 : decode cX3_apply 1 = .ok (.istore_n 3, 1) := by decide +kernel
theorem d_X3_apply_2 : decode cX3_apply 2 = .ok (.bipush 14, 2) := by decide +kernel
theorem d_X3_apply_4 : decode cX3_apply 4 = .ok (.istore 4, 2) := by decide +kernel
theorem d_X3_apply_6 : decode cX3_apply 6 = .ok (.iconst 0, 1) := by decide +kernel
theorem d_X3_apply_7 : decode cX3_apply 7 = .ok (.istore 5, 2) := by decide +kernel
theorem d_X3_apply_9 : decode cX3_apply 9 = .ok (.iload 5, 2) := by decide +kernel
theorem d_X3_apply_11 : decode cX3_apply 11 = .ok (.aload_n 0, 1) := by decide +kernel
theorem d_X3_apply_12 : decode cX3_apply 12 = .ok (.getfield 29, 3) := by decide +kernel
theorem d_X3_apply_15 : decode cX3_apply 15 = .ok (.if_icmp .ge 132, 3) := by decide +kernel
theorem d_X3_apply_18 : decode cX3_apply 18 = .ok (.aload_n 0, 1) := by decide +kernel
theorem d_X3_apply_19 : decode cX3_apply 19 = .ok (.getfield 11, 3) := by decide +kernel
theorem d_X3_apply_22 : decode cX3_apply 22 = .ok (.iload 5, 2) := by decide +kernel
theorem d_X3_apply_24 : decode cX3_apply 24 = .ok (.iaload, 1) := by decide +kernel
theorem d_X3_apply_25 : decode cX3_apply 25 = .ok (.istore 6, 2) := by decide +kernel
theorem d_X3_apply_27 : decode cX3_apply 27 = .ok (.iload 5, 2) := by decide +kernel
theorem d_X3_apply_29 : decode cX3_apply 29 = .ok (.iconst 1, 1) := by decide +kernel
theorem d_X3_apply_30 : decode cX3_apply 30 = .ok (.iadd, 1) := by decide +kernel
theorem d_X3_apply_31 : decode cX3_apply 31 = .ok (.aload_n 0, 1) := by decide +kernel
theorem d_X3_apply_32 : decode cX3_apply 32 = .ok (.getfield 29, 3) := by decide +kernel
theorem d_X3_apply_35 : decode cX3_apply 35 = .ok (.if_icmp .ge 15, 3) := by decide +kernel
theorem d_X3_apply_38 : decode cX3_apply 38 = .ok (.aload_n 0, 1) := by decide +kernel
theorem d_X3_apply_39 : decode cX3_apply 39 = .ok (.getfield 11, 3) := by decide +kernel
theorem d_X3_apply_42 : decode cX3_apply 42 = .ok (.iload 5, 2) := by decide +kernel
theorem d_X3_apply_44 : decode cX3_apply 44 = .ok (.iconst 1, 1) := by decide +kernel
theorem d_X3_apply_45 : decode cX3_apply 45 = .ok (.iadd, 1) := by decide +kernel
theorem d_X3_apply_46 : decode cX3_apply 46 = .ok (.iaload, 1) := by decide +kernel
theorem d_X3_apply_47 : decode cX3_apply 47 = .ok (.goto 5, 3) := by decide +kernel
theorem d_X3_apply_50 : decode cX3_apply 50 = .ok (.bipush 14, 2) := by decide +kernel
theorem d_X3_apply_52 : decode cX3_apply 52 = .ok (.istore 7, 2) := by decide +kernel
theorem d_X3_apply_54 : decode cX3_apply 54 = .ok (.aload_n 1, 1) := by decide +kernel
theorem d_X3_apply_55 : decode cX3_apply 55 = .ok (.getfield 59, 3) := by decide +kernel
theorem d_X3_apply_58 : decode cX3_apply 58 = .ok (.iload 6, 2) := by decide +kernel
theorem d_X3_apply_60 : decode cX3_apply 60 = .ok (.aload_n 2, 1) := by decide +kernel
theorem d_X3_apply_61 : decode cX3_apply 61 = .ok (.invokestatic 62, 3) := by decide +kernel
theorem d_X3_apply_64 : decode cX3_apply 64 = .ok (.ifCond .eq 33, 3) := by decide +kernel
theorem d_X3_apply_67 : decode cX3_apply 67 = .ok (.aload_n 1, 1) := by decide +kernel
theorem d_X3_apply_68 : decode cX3_apply 68 = .ok (.getfield 66, 3) := by decide +kernel
theorem d_X3_apply_71 : decode cX3_apply 71 = .ok (.iload 4, 2) := by decide +kernel
theorem d_X3_apply_73 : decode cX3_apply 73 = .ok (.aload_n 2, 1) := by decide +kernel
theorem d_X3_apply_74 : decode cX3_apply 74 = .ok (.invokestatic 62, 3) := by decide +kernel
theorem d_X3_apply_77 : decode cX3_apply 77 = .ok (.ifCond .eq 20, 3) := by decide +kernel
theorem d_X3_apply_80 : decode cX3_apply 80 = .ok (.aload_n 1, 1) := by decide +kernel
theorem d_X3_apply_81 : decode cX3_apply 81 = .ok (.getfield 69, 3) := by decide +kernel
theorem d_X3_apply_84 : decode cX3_apply 84 = .ok (.iload 7, 2) := by decide +kernel
theorem d_X3_apply_86 : decode cX3_apply 86 = .ok (.aload_n 2, 1) := by decide +kernel
theorem d_X3_apply_87 : decode cX3_apply 87 = .ok (.invokestatic 62, 3) := by decide +kernel
theorem d_X3_apply_90 : decode cX3_apply 90 = .ok (.ifCond .eq 7, 3) := by decide +kernel
theorem d_X3_apply_93 : decode cX3_apply 93 = .ok (.iconst 1, 1) := by decide +kernel
theorem d_X3_apply_94 : decode cX3_apply 94 = .ok (.goto 4, 3) := by decide +kernel
theorem d_X3_apply_97 : decode cX3_apply 97 = .ok (.iconst 0, 1) := by decide +kernel
theorem d_X3_apply_98 : decode cX3_apply 98 = .ok (.istore 8, 2) := by decide +kernel
theorem d_X3_apply_100 : decode cX3_apply 100 = .ok (.iload 6, 2) := by decide +kernel
theorem d_X3_apply_102 : decode cX3_apply 102 = .ok (.istore 4, 2) := by decide +kernel
theorem d_X3_apply_104 : decode cX3_apply 104 = .ok (.iload 8, 2) := by decide +kernel
theorem d_X3_apply_106 : decode cX3_apply 106 = .ok (.ifCond .eq 12, 3) := by decide +kernel
theorem d_X3_apply_109 : decode cX3_apply 109 = .ok (.aload_n 1, 1) := by decide +kernel
theorem d_X3_apply_110 : decode cX3_apply 110 = .ok (.getfield 72, 3) := by decide +kernel
theorem d_X3_apply_113 : decode cX3_apply 113 = .ok (.bipush 16, 2) := by decide +kernel
theorem d_X3_apply_115 : decode cX3_apply 115 = .ok (.if_icmp .eq 26, 3) := by decide +kernel
theorem d_X3_apply_118 : decode cX3_apply 118 = .ok (.aload_n 0, 1) := by decide +kernel
theorem d_X3_apply_119 : decode cX3_apply 119 = .ok (.getfield 11, 3) := by decide +kernel
theorem d_X3_apply_122 : decode cX3_apply 122 = .ok (.iload_n 3, 1) := by decide +kernel
theorem d_X3_apply_123 : decode cX3_apply 123 = .ok (.iload 8, 2) := by decide +kernel
theorem d_X3_apply_125 : decode cX3_apply 125 = .ok (.ifCond .eq 10, 3) := by decide +kernel
theorem d_X3_apply_128 : decode cX3_apply 128 = .ok (.aload_n 1, 1) := by decide +kernel
theorem d_X3_apply_129 : decode cX3_apply 129 = .ok (.getfield 72, 3) := by decide +kernel
theorem d_X3_apply_132 : decode cX3_apply 132 = .ok (.goto 5, 3) := by decide +kernel
theorem d_X3_apply_135 : decode cX3_apply 135 = .ok (.iload 6, 2) := by decide +kernel
theorem d_X3_apply_137 : decode cX3_apply 137 = .ok (.iastore, 1) := by decide +kernel
theorem d_X3_apply_138 : decode cX3_apply 138 = .ok (.iinc 3 1, 3) := by decide +kernel
theorem d_X3_apply_141 : decode cX3_apply 141 = .ok (.iinc 5 1, 3) := by decide +kernel
theorem d_X3_apply_144 : decode cX3_apply 144 = .ok (.goto (-135), 3) := by decide +kernel
theorem d_X3_apply_147 : decode cX3_apply 147 = .ok (.aload_n 0, 1) := by decide +kernel
theorem d_X3_apply_148 : decode cX3_apply 148 = .ok (.iload_n 3, 1) := by decide +kernel
theorem d_X3_apply_149 : decode cX3_apply 149 = .ok (.putfield 29, 3) := by decide +kernel
theorem d_X3_apply_152 : decode cX3_apply 152 = .ok (.return_, 1) := by decide +kernel
set_option maxHeartbeats 4000000 in
set_option maxRecDepth 100000 in
theorem t_X3_apply_118 {X : XT_x} {G : GT_g} {z : Mem_m} (C : Cx_ (K_X3_apply) X G) (hR : Rx_ X G none) (M : Mem_m) (x0 : Nat) (x1 : Nat) (x2 : Nat) (x3 : Int) (x4 : Int) (x5 : Int) (x6 : Int) (x8 : Int) (o_x3 : ok_i x3) (o_x4 : ok_i x4) (o_x5 : ok_i x5) (o_x6 : ok_i x6) (o_x8 : ok_i x8) (k_9 : Mem_m → Int → Int → Int → Option Mem_m) (hk_9 : ∀ (M : Mem_m) (x3 : Int) (x4 : Int) (x5 : Int) (o_x3 : ok_i x3) (o_x4 : ok_i x4) (o_x5 : ok_i x5), k_9 M x3 x4 x5 = some z → V_ (K_X3_apply) X G (Fq_ X G (Qv_ G z)) M 9 [(0, .ref (G.1 + x0)), (1, .ref (G.1 + x1)), (2, .ref (G.1 + x2)), (3, iv_i x3), (4, iv_i x4), (5, iv_i x5)] []) (h : f_X3_apply_118 G.2.2.2 k_9 M x0 x1 x2 x3 x4 x5 x6 x8 = some z) : V_ (K_X3_apply) X G (Fq_ X G (Qv_ G z)) M 118 [(0, .ref (G.1 + x0)), (1, .ref (G.1 + x1)), (2, .ref (G.1 + x2)), (3, iv_i x3), (4, iv_i x4), (5, iv_i x5), (6, iv_i x6), (8, iv_i x8)] [] := by
  unfold f_X3_apply_118 at h
  refine V_aload_n (j := 0) C d_X3_apply_118 rfl rfl ?_
  refine V_getR C ck_3 fw_X3_11 d_X3_apply_119 h (fun v1 h => ?_)
  refine V_iload_n (j := 3) C d_X3_apply_122 rfl rfl ?_
  refine V_iload (j := 7) C d_X3_apply_123 rfl ?_
  refine V_if_eq (tgt := 135) C d_X3_apply_125 (by decide) o_x8 h (fun h => ?_) (fun h => ?_)
  · skip
    refine V_iload (j := 6) C d_X3_apply_135 rfl ?_
    refine V_iast C d_X3_apply_137 o_x3 o_x6 h (fun M2 h => ?_)
    refine V_iinc (j := 3) (lv' := [(3, iv_i (wr_i (x3 + 1))), (0, .ref (G.1 + x0)), (1, .ref (G.1 + x1)), (2, .ref (G.1 + x2)), (4, iv_i x4), (5, iv_i x5), (6, iv_i x6), (8, iv_i x8)]) C d_X3_apply_138 rfl (by decide) rfl ?_
    refine V_iinc (j := 5) (lv' := [(5, iv_i (wr_i (x5 + 1))), (3, iv_i (wr_i (x3 + 1))), (0, .ref (G.1 + x0)), (1, .ref (G.1 + x1)), (2, .ref (G.1 + x2)), (4, iv_i x4), (6, iv_i x6), (8, iv_i x8)]) C d_X3_apply_141 rfl (by decide) rfl ?_
    refine V_goto (tgt := 9) C d_X3_apply_144 (by decide) ?_
    refine V_lv [2, 3, 4, 1, 5, 0] rfl (hk_9 M2 (wr_i (x3 + 1)) x4 (wr_i (x5 + 1)) (ok_wr _) o_x4 (ok_wr _) h)
  · skip
    refine V_aload_n (j := 1) C d_X3_apply_128 rfl rfl ?_
    refine V_getI C ck_7 fw_X3_72 d_X3_apply_129 h (fun v3 o3 h => ?_)
    refine V_goto (tgt := 137) C d_X3_apply_132 (by decide) ?_
    refine V_iast C d_X3_apply_137 o_x3 o3 h (fun M4 h => ?_)
    refine V_iinc (j := 3) (lv' := [(3, iv_i (wr_i (x3 + 1))), (0, .ref (G.1 + x0)), (1, .ref (G.1 + x1)), (2, .ref (G.1 + x2)), (4, iv_i x4), (5, iv_i x5), (6, iv_i x6), (8, iv_i x8)]) C d_X3_apply_138 rfl (by decide) rfl ?_
    refine V_iinc (j := 5) (lv' := [(5, iv_i (wr_i (x5 + 1))), (3, iv_i (wr_i (x3 + 1))), (0, .ref (G.1 + x0)), (1, .ref (G.1 + x1)), (2, .ref (G.1 + x2)), (4, iv_i x4), (6, iv_i x6), (8, iv_i x8)]) C d_X3_apply_141 rfl (by decide) rfl ?_
    refine V_goto (tgt := 9) C d_X3_apply_144 (by decide) ?_
    refine V_lv [2, 3, 4, 1, 5, 0] rfl (hk_9 M4 (wr_i (x3 + 1)) x4 (wr_i (x5 + 1)) (ok_wr _) o_x4 (ok_wr _) h)
set_option maxHeartbeats 4000000 in
set_option maxRecDepth 100000 in
theorem t_X3_apply_98 {X : XT_x} {G : GT_g} {z : Mem_m} (C : Cx_ (K_X3_apply) X G) (hR : Rx_ X G none) (M : Mem_m) (x0 : Nat) (x1 : Nat) (x2 : Nat) (x3 : Int) (x5 : Int) (x6 : Int) (s0 : Int) (o_x3 : ok_i x3) (o_x5 : ok_i x5) (o_x6 : ok_i x6) (o_s0 : ok_i s0) (k_9 : Mem_m → Int → Int → Int → Option Mem_m) (hk_9 : ∀ (M : Mem_m) (x3 : Int) (x4 : Int) (x5 : Int) (o_x3 : ok_i x3) (o_x4 : ok_i x4) (o_x5 : ok_i x5), k_9 M x3 x4 x5 = some z → V_ (K_X3_apply) X G (Fq_ X G (Qv_ G z)) M 9 [(0, .ref (G.1 + x0)), (1, .ref (G.1 + x1)), (2, .ref (G.1 + x2)), (3, iv_i x3), (4, iv_i x4), (5, iv_i x5)] []) (h : f_X3_apply_98 G.2.2.2 k_9 M x0 x1 x2 x3 x5 x6 s0 = some z) : V_ (K_X3_apply) X G (Fq_ X G (Qv_ G z)) M 98 [(0, .ref (G.1 + x0)), (1, .ref (G.1 + x1)), (2, .ref (G.1 + x2)), (3, iv_i x3), (5, iv_i x5), (6, iv_i x6)] [iv_i s0] := by
  unfold f_X3_apply_98 at h
  refine V_istore (lv' := [(8, iv_i s0), (0, .ref (G.1 + x0)), (1, .ref (G.1 + x1)), (2, .ref (G.1 + x2)), (3, iv_i x3), (5, iv_i x5), (6, iv_i x6)]) C d_X3_apply_98 (by decide) rfl ?_
  refine V_iload (j := 6) C d_X3_apply_100 rfl ?_
  refine V_istore (lv' := [(4, iv_i x6), (8, iv_i s0), (0, .ref (G.1 + x0)), (1, .ref (G.1 + x1)), (2, .ref (G.1 + x2)), (3, iv_i x3), (5, iv_i x5), (6, iv_i x6)]) C d_X3_apply_102 (by decide) rfl ?_
  refine V_iload (j := 1) C d_X3_apply_104 rfl ?_
  refine V_if_eq (tgt := 118) C d_X3_apply_106 (by decide) o_s0 h (fun h => ?_) (fun h => ?_)
  · skip
    refine V_lv [2, 3, 4, 5, 0, 6, 7, 1] rfl (t_X3_apply_118 C hR M x0 x1 x2 x3 x6 x5 x6 s0 o_x3 o_x6 o_x5 o_x6 o_s0 k_9 hk_9 h)
  · skip
    refine V_aload_n (j := 3) C d_X3_apply_109 rfl rfl ?_
    refine V_getI C ck_7 fw_X3_72 d_X3_apply_110 h (fun v1 o1 h => ?_)
    refine V_bipush (v := 16) C d_X3_apply_113 rfl ?_
    refine V_icmp_eq (tgt := 141) C d_X3_apply_115 (by decide) o1 (okc rfl) h (fun h => ?_) (fun h => ?_)
    · skip
      refine V_iinc (j := 6) (lv' := [(5, iv_i (wr_i (x5 + 1))), (4, iv_i x6), (8, iv_i s0), (0, .ref (G.1 + x0)), (1, .ref (G.1 + x1)), (2, .ref (G.1 + x2)), (3, iv_i x3), (6, iv_i x6)]) C d_X3_apply_141 rfl (by decide) rfl ?_
      refine V_goto (tgt := 9) C d_X3_apply_144 (by decide) ?_
      refine V_lv [3, 4, 5, 6, 1, 0] rfl (hk_9 M x3 x6 (wr_i (x5 + 1)) o_x3 o_x6 (ok_wr _) h)
    · skip
      refine V_lv [2, 3, 4, 5, 0, 6, 7, 1] rfl (t_X3_apply_118 C hR M x0 x1 x2 x3 x6 x5 x6 s0 o_x3 o_x6 o_x5 o_x6 o_s0 k_9 hk_9 h)
set_option maxHeartbeats 4000000 in
set_option maxRecDepth 100000 in
theorem t_X3_apply_97 {X : XT_x} {G : GT_g} {z : Mem_m} (C : Cx_ (K_X3_apply) X G) (hR : Rx_ X G none) (M : Mem_m) (x0 : Nat) (x1 : Nat) (x2 : Nat) (x3 : Int) (x5 : Int) (x6 : Int) (o_x3 : ok_i x3) (o_x5 : ok_i x5) (o_x6 : ok_i x6) (k_9 : Mem_m → Int → Int → Int → Option Mem_m) (hk_9 : ∀ (M : Mem_m) (x3 : Int) (x4 : Int) (x5 : Int) (o_x3 : ok_i x3) (o_x4 : ok_i x4) (o_x5 : ok_i x5), k_9 M x3 x4 x5 = some z → V_ (K_X3_apply) X G (Fq_ X G (Qv_ G z)) M 9 [(0, .ref (G.1 + x0)), (1, .ref (G.1 + x1)), (2, .ref (G.1 + x2)), (3, iv_i x3), (4, iv_i x4), (5, iv_i x5)] []) (h : f_X3_apply_97 G.2.2.2 k_9 M x0 x1 x2 x3 x5 x6 = some z) : V_ (K_X3_apply) X G (Fq_ X G (Qv_ G z)) M 97 [(0, .ref (G.1 + x0)), (1, .ref (G.1 + x1)), (2, .ref (G.1 + x2)), (3, iv_i x3), (5, iv_i x5), (6, iv_i x6)] [] := by
  unfold f_X3_apply_97 at h
  refine V_iconst C d_X3_apply_97 ?_
  refine V_lv [0, 1, 2, 3, 4, 5] rfl (t_X3_apply_98 C hR M x0 x1 x2 x3 x5 x6 0 o_x3 o_x5 o_x6 (okc rfl) k_9 hk_9 h)
set_option maxHeartbeats 4000000 in
set_option maxRecDepth 100000 in
theorem t_X3_apply_52 {X : XT_x} {G : GT_g} {z : Mem_m} (C : Cx_ (K_X3_apply) X G) (hR : Rx_ X G none) (M : Mem_m) (x0 : Nat) (x1 : Nat) (x2 : Nat) (x3 : Int) (x4 : Int) (x5 : Int) (x6 : Int) (s0 : Int) (o_x3 : ok_i x3) (o_x4 : ok_i x4) (o_x5 : ok_i x5) (o_x6 : ok_i x6) (o_s0 : ok_i s0) (k_9 : Mem_m → Int → Int → Int → Option Mem_m) (hk_9 : ∀ (M : Mem_m) (x3 : Int) (x4 : Int) (x5 : Int) (o_x3 : ok_i x3) (o_x4 : ok_i x4) (o_x5 : ok_i x5), k_9 M x3 x4 x5 = some z → V_ (K_X3_apply) X G (Fq_ X G (Qv_ G z)) M 9 [(0, .ref (G.1 + x0)), (1, .ref (G.1 + x1)), (2, .ref (G.1 + x2)), (3, iv_i x3), (4, iv_i x4), (5, iv_i x5)] []) (h : f_X3_apply_52 G.2.2.2 k_9 M x0 x1 x2 x3 x4 x5 x6 s0 = some z) : V_ (K_X3_apply) X G (Fq_ X G (Qv_ G z)) M 52 [(0, .ref (G.1 + x0)), (1, .ref (G.1 + x1)), (2, .ref (G.1 + x2)), (3, iv_i x3), (4, iv_i x4), (5, iv_i x5), (6, iv_i x6)] [iv_i s0] := by
  unfold f_X3_apply_52 at h
  refine V_istore (lv' := [(7, iv_i s0), (0, .ref (G.1 + x0)), (1, .ref (G.1 + x1)), (2, .ref (G.1 + x2)), (3, iv_i x3), (4, iv_i x4), (5, iv_i x5), (6, iv_i x6)]) C d_X3_apply_52 (by decide) rfl ?_
  refine V_aload_n (j := 2) C d_X3_apply_54 rfl rfl ?_
  refine V_getI C ck_7 fw_X3_59 d_X3_apply_55 h (fun v1 o1 h => ?_)
  refine V_iload (j := 7) C d_X3_apply_58 rfl ?_
  refine V_aload_n (j := 3) C d_X3_apply_60 rfl rfl ?_
  refine V_callSri (K' := K_X7_agrees) (av := [iv_i v1, iv_i x6, .ref (G.1 + x2)]) (rest := []) ys_X7_agrees C (yk_X7_agrees) l1_X3_62 (by decide) d_X3_apply_61 (fun v hv => ct_X7_agrees v1 x6 x2 o1 o_x6 hv) rfl rfl (Nat.le_of_ble_eq_true rfl) h (fun v2 o2 h => ?_)
  refine V_if_eq (tgt := 97) C d_X3_apply_64 (by decide) o2 h (fun h => ?_) (fun h => ?_)
  · skip
    refine V_lv [1, 2, 3, 4, 6, 7] rfl (t_X3_apply_97 C hR M x0 x1 x2 x3 x5 x6 o_x3 o_x5 o_x6 k_9 hk_9 h)
  · skip
    refine V_aload_n (j := 2) C d_X3_apply_67 rfl rfl ?_
    refine V_getI C ck_7 fw_X3_66 d_X3_apply_68 h (fun v3 o3 h => ?_)
    refine V_iload (j := 5) C d_X3_apply_71 rfl ?_
    refine V_aload_n (j := 3) C d_X3_apply_73 rfl rfl ?_
    refine V_callSri (K' := K_X7_agrees) (av := [iv_i v3, iv_i x4, .ref (G.1 + x2)]) (rest := []) ys_X7_agrees C (yk_X7_agrees) l1_X3_62 (by decide) d_X3_apply_74 (fun v hv => ct_X7_agrees v3 x4 x2 o3 o_x4 hv) rfl rfl (Nat.le_of_ble_eq_true rfl) h (fun v4 o4 h => ?_)
    refine V_if_eq (tgt := 97) C d_X3_apply_77 (by decide) o4 h (fun h => ?_) (fun h => ?_)
    · skip
      refine V_lv [1, 2, 3, 4, 6, 7] rfl (t_X3_apply_97 C hR M x0 x1 x2 x3 x5 x6 o_x3 o_x5 o_x6 k_9 hk_9 h)
    · skip
      refine V_aload_n (j := 2) C d_X3_apply_80 rfl rfl ?_
      refine V_getI C ck_7 fw_X3_69 d_X3_apply_81 h (fun v5 o5 h => ?_)
      refine V_iload (j := 0) C d_X3_apply_84 rfl ?_
      refine V_aload_n (j := 3) C d_X3_apply_86 rfl rfl ?_
      refine V_callSri (K' := K_X7_agrees) (av := [iv_i v5, iv_i s0, .ref (G.1 + x2)]) (rest := []) ys_X7_agrees C (yk_X7_agrees) l1_X3_62 (by decide) d_X3_apply_87 (fun v hv => ct_X7_agrees v5 s0 x2 o5 o_s0 hv) rfl rfl (Nat.le_of_ble_eq_true rfl) h (fun v6 o6 h => ?_)
      refine V_if_eq (tgt := 97) C d_X3_apply_90 (by decide) o6 h (fun h => ?_) (fun h => ?_)
      · skip
        refine V_lv [1, 2, 3, 4, 6, 7] rfl (t_X3_apply_97 C hR M x0 x1 x2 x3 x5 x6 o_x3 o_x5 o_x6 k_9 hk_9 h)
      · skip
        refine V_iconst C d_X3_apply_93 ?_
        refine V_goto (tgt := 98) C d_X3_apply_94 (by decide) ?_
        refine V_lv [1, 2, 3, 4, 6, 7] rfl (t_X3_apply_98 C hR M x0 x1 x2 x3 x5 x6 1 o_x3 o_x5 o_x6 (okc rfl) k_9 hk_9 h)
set_option maxHeartbeats 4000000 in
set_option maxRecDepth 100000 in
theorem t_X3_apply_9 {X : XT_x} {G : GT_g} {z : Mem_m} (C : Cx_ (K_X3_apply) X G) (hR : Rx_ X G none) (x0 : Nat) (x1 : Nat) (x2 : Nat) : ∀ (n : Nat) (M : Mem_m) (x3 : Int) (x4 : Int) (x5 : Int) (o_x3 : ok_i x3) (o_x4 : ok_i x4) (o_x5 : ok_i x5), f_X3_apply_9 G.2.2.2 x0 x1 x2 n M x3 x4 x5 = some z → V_ (K_X3_apply) X G (Fq_ X G (Qv_ G z)) M 9 [(0, .ref (G.1 + x0)), (1, .ref (G.1 + x1)), (2, .ref (G.1 + x2)), (3, iv_i x3), (4, iv_i x4), (5, iv_i x5)] [] := by
  intro n
  induction n with
  | zero => intro M x3 x4 x5 o_x3 o_x4 o_x5 h; exact absurd h (by simp [f_X3_apply_9])
  | succ n ih =>
    intro M x3 x4 x5 o_x3 o_x4 o_x5 h
    unfold f_X3_apply_9 at h
    refine V_iload (j := 5) C d_X3_apply_9 rfl ?_
    refine V_aload_n (j := 0) C d_X3_apply_11 rfl rfl ?_
    refine V_getI C ck_3 fw_X3_29 d_X3_apply_12 h (fun v1 o1 h => ?_)
    refine V_icmp_ge (tgt := 147) C d_X3_apply_15 (by decide) o_x5 o1 h (fun h => ?_) (fun h => ?_)
    · skip
      refine V_aload_n (j := 0) C d_X3_apply_18 rfl rfl ?_
      refine V_getR C ck_3 fw_X3_11 d_X3_apply_19 h (fun v2 h => ?_)
      refine V_iload (j := 5) C d_X3_apply_22 rfl ?_
      refine V_iald C d_X3_apply_24 o_x5 h (fun v3 o3 h => ?_)
      refine V_istore (lv' := [(6, iv_i v3), (0, .ref (G.1 + x0)), (1, .ref (G.1 + x1)), (2, .ref (G.1 + x2)), (3, iv_i x3), (4, iv_i x4), (5, iv_i x5)]) C d_X3_apply_25 (by decide) rfl ?_
      refine V_iload (j := 6) C d_X3_apply_27 rfl ?_
      refine V_iconst C d_X3_apply_29 ?_
      refine V_iadd C d_X3_apply_30 ?_
      refine V_aload_n (j := 1) C d_X3_apply_31 rfl rfl ?_
      refine V_getI C ck_3 fw_X3_29 d_X3_apply_32 h (fun v4 o4 h => ?_)
      refine V_icmp_ge (tgt := 50) C d_X3_apply_35 (by decide) (ok_wr _) o4 h (fun h => ?_) (fun h => ?_)
      · skip
        refine V_aload_n (j := 1) C d_X3_apply_38 rfl rfl ?_
        refine V_getR C ck_3 fw_X3_11 d_X3_apply_39 h (fun v5 h => ?_)
        refine V_iload (j := 6) C d_X3_apply_42 rfl ?_
        refine V_iconst C d_X3_apply_44 ?_
        refine V_iadd C d_X3_apply_45 ?_
        refine V_iald C d_X3_apply_46 (ok_wr _) h (fun v6 o6 h => ?_)
        refine V_goto (tgt := 52) C d_X3_apply_47 (by decide) ?_
        refine V_lv [1, 2, 3, 4, 5, 6, 0] rfl (t_X3_apply_52 C hR M x0 x1 x2 x3 x4 x5 v3 v6 o_x3 o_x4 o_x5 o3 o6 (fun M x3 x4 x5 => f_X3_apply_9 G.2.2.2 x0 x1 x2 n M x3 x4 x5) (fun M x3 x4 x5 o_x3 o_x4 o_x5 h9 => ih M x3 x4 x5 o_x3 o_x4 o_x5 h9) h)
      · skip
        refine V_bipush (v := 14) C d_X3_apply_50 rfl ?_
        refine V_lv [1, 2, 3, 4, 5, 6, 0] rfl (t_X3_apply_52 C hR M x0 x1 x2 x3 x4 x5 v3 14 o_x3 o_x4 o_x5 o3 (okc rfl) (fun M x3 x4 x5 => f_X3_apply_9 G.2.2.2 x0 x1 x2 n M x3 x4 x5) (fun M x3 x4 x5 o_x3 o_x4 o_x5 h9 => ih M x3 x4 x5 o_x3 o_x4 o_x5 h9) h)
    · skip
      refine V_aload_n (j := 0) C d_X3_apply_147 rfl rfl ?_
      refine V_iload_n (j := 3) C d_X3_apply_148 rfl rfl ?_
      refine V_putI C ck_3 fw_X3_29 fp_3_1 d_X3_apply_149 o_x3 h (fun M7 h => ?_)
      exact V_vret C hR d_X3_apply_152 (Option.some.inj h)
set_option maxHeartbeats 4000000 in
set_option maxRecDepth 100000 in
theorem t_X3_apply {X : XT_x} {G : GT_g} {M : Mem_m} {z : Mem_m} (C : Cx_ (K_X3_apply) X G) (hR : Rx_ X G none) (x0 : Nat) (x1 : Nat) (x2 : Nat)  (h : f_X3_apply G.2.2.2 M x0 x1 x2 = some z) : V_ (K_X3_apply) X G (Fq_ X G (Qv_ G z)) M 0 [(0, .ref (G.1 + x0)), (1, .ref (G.1 + x1)), (2, .ref (G.1 + x2))] [] := by
  unfold f_X3_apply at h
  refine V_iconst C d_X3_apply_0 ?_
  refine V_istore_n (lv' := [(3, iv_i 0), (0, .ref (G.1 + x0)), (1, .ref (G.1 + x1)), (2, .ref (G.1 + x2))]) C d_X3_apply_1 rfl (by decide) rfl ?_
  refine V_bipush (v := 14) C d_X3_apply_2 rfl ?_
  refine V_istore (lv' := [(4, iv_i 14), (3, iv_i 0), (0, .ref (G.1 + x0)), (1, .ref (G.1 + x1)), (2, .ref (G.1 + x2))]) C d_X3_apply_4 (by decide) rfl ?_
  refine V_iconst C d_X3_apply_6 ?_
  refine V_istore (lv' := [(5, iv_i 0), (4, iv_i 14), (3, iv_i 0), (0, .ref (G.1 + x0)), (1, .ref (G.1 + x1)), (2, .ref (G.1 + x2))]) C d_X3_apply_7 (by decide) rfl ?_
  refine V_lv [3, 4, 5, 2, 1, 0] rfl (t_X3_apply_9 C hR x0 x1 x2 FU_ M 0 14 0 (okc rfl) (okc rfl) (okc rfl) h)
set_option maxHeartbeats 4000000 in
set_option maxRecDepth 100000 in
theorem ct_X3_apply {l : Launch} {G : GT_g} {M : Mem_m} (x0 : Nat) (x1 : Nat) (x2 : Nat)  {z : Mem_m} (h : f_X3_apply G.2.2.2 M x0 x1 x2 = some z) : MV_ l yX3_apply K_X3_apply none G M [.ref (G.1 + x0), .ref (G.1 + x1), .ref (G.1 + x2)] z :=
  met_of (by decide +kernel) rfl (Nat.le_of_ble_eq_true rfl) (fun X hl C hR => by subst hl; exact t_X3_apply C hR x0 x1 x2  h)
theorem d_X3_hear_0 : decode cX3_hear 0 = .ok (.iconst 0, 1) := by decide +kernel
theorem d_X3_hear_1 : decode cX3_hear 1 = .ok (.istore_n 2, 1) := by decide +kernel
theorem d_X3_hear_2 : decode cX3_hear 2 = .ok (.iload_n 2, 1) := by decide +kernel
theorem d_X3_hear_3 : decode cX3_hear 3 = .ok (.aload_n 1, 1) := by decide +kernel
theorem d_X3_hear_4 : decode cX3_hear 4 = .ok (.getfield 43, 3) := by decide +kernel
theorem d_X3_hear_7 : decode cX3_hear 7 = .ok (.if_icmp .ge 23, 3) := by decide +kernel
theorem d_X3_hear_10 : decode cX3_hear 10 = .ok (.aload_n 0, 1) := by decide +kernel
theorem d_X3_hear_11 : decode cX3_hear 11 = .ok (.aload_n 1, 1) := by decide +kernel
theorem d_X3_hear_12 : decode cX3_hear 12 = .ok (.getfield 48, 3) := by decide +kernel
theorem d_X3_hear_15 : decode cX3_hear 15 = .ok (.iload_n 2, 1) := by decide +kernel
theorem d_X3_hear_16 : decode cX3_hear 16 = .ok (.aaload, 1) := by decide +kernel
theorem d_X3_hear_17 : decode cX3_hear 17 = .ok (.aload_n 1, 1) := by decide +kernel
theorem d_X3_hear_18 : decode cX3_hear 18 = .ok (.getfield 52, 3) := by decide +kernel
theorem d_X3_hear_21 : decode cX3_hear 21 = .ok (.invokevirtual 55, 3) := by decide +kernel
theorem d_X3_hear_24 : decode cX3_hear 24 = .ok (.iinc 2 1, 3) := by decide +kernel
theorem d_X3_hear_27 : decode cX3_hear 27 = .ok (.goto (-25), 3) := by decide +kernel
theorem d_X3_hear_30 : decode cX3_hear 30 = .ok (.return_, 1) := by decide +kernel
set_option maxHeartbeats 4000000 in
set_option maxRecDepth 100000 in
theorem t_X3_hear_2 {X : XT_x} {G : GT_g} {z : Mem_m} (C : Cx_ (K_X3_hear) X G) (hR : Rx_ X G none) (x0 : Nat) (x1 : Nat) : ∀ (n : Nat) (M : Mem_m) (x2 : Int) (o_x2 : ok_i x2), f_X3_hear_2 G.2.2.2 x0 x1 n M x2 = some z → V_ (K_X3_hear) X G (Fq_ X G (Qv_ G z)) M 2 [(0, .ref (G.1 + x0)), (1, .ref (G.1 + x1)), (2, iv_i x2)] [] := by
  intro n
  induction n with
  | zero => intro M x2 o_x2 h; exact absurd h (by simp [f_X3_hear_2])
  | succ n ih =>
    intro M x2 o_x2 h
    unfold f_X3_hear_2 at h
    refine V_iload_n (j := 2) C d_X3_hear_2 rfl rfl ?_
    refine V_aload_n (j := 1) C d_X3_hear_3 rfl rfl ?_
    refine V_getI C ck_0 fw_X3_43 d_X3_hear_4 h (fun v1 o1 h => ?_)
    refine V_icmp_ge (tgt := 30) C d_X3_hear_7 (by decide) o_x2 o1 h (fun h => ?_) (fun h => ?_)
    · skip
      refine V_aload_n (j := 0) C d_X3_hear_10 rfl rfl ?_
      refine V_aload_n (j := 1) C d_X3_hear_11 rfl rfl ?_
      refine V_getR C ck_0 fw_X3_48 d_X3_hear_12 h (fun v2 h => ?_)
      refine V_iload_n (j := 2) C d_X3_hear_15 rfl rfl ?_
      refine V_aald (t := 2) C tc_2 d_X3_hear_16 o_x2 h (fun v3 h => ?_)
      refine V_aload_n (j := 1) C d_X3_hear_17 rfl rfl ?_
      refine V_getR C ck_0 fw_X3_52 d_X3_hear_18 h (fun v4 h => ?_)
      refine V_callVwv (K' := K_X3_apply) (a := x0) (ci := 3) (av := [.ref (G.1 + v3), .ref (G.1 + v4)]) (rest := []) yi_X3_apply (by decide) rfl C (yk_X3_apply) l1_X3_55 (by decide) d_X3_hear_21 (fun v hv => ct_X3_apply x0 v3 v4 hv) rfl rfl (Nat.le_of_ble_eq_true rfl) h (fun M5 h => ?_)
      refine V_iinc (j := 2) (lv' := [(2, iv_i (wr_i (x2 + 1))), (0, .ref (G.1 + x0)), (1, .ref (G.1 + x1))]) C d_X3_hear_24 rfl (by decide) rfl ?_
      refine V_goto (tgt := 2) C d_X3_hear_27 (by decide) ?_
      refine V_lv [1, 2, 0] rfl (ih M5 (wr_i (x2 + 1)) (ok_wr _) h)
    · skip
      exact V_vret C hR d_X3_hear_30 (Option.some.inj h)
set_option maxHeartbeats 4000000 in
set_option maxRecDepth 100000 in
theorem t_X3_hear {X : XT_x} {G : GT_g} {M : Mem_m} {z : Mem_m} (C : Cx_ (K_X3_hear) X G) (hR : Rx_ X G none) (x0 : Nat) (x1 : Nat)  (h : f_X3_hear G.2.2.2 M x0 x1 = some z) : V_ (K_X3_hear) X G (Fq_ X G (Qv_ G z)) M 0 [(0, .ref (G.1 + x0)), (1, .ref (G.1 + x1))] [] := by
  unfold f_X3_hear at h
  refine V_iconst C d_X3_hear_0 ?_
  refine V_istore_n (lv' := [(2, iv_i 0), (0, .ref (G.1 + x0)), (1, .ref (G.1 + x1))]) C d_X3_hear_1 rfl (by decide) rfl ?_
  refine V_lv [1, 2, 0] rfl (t_X3_hear_2 C hR x0 x1 FU_ M 0 (okc rfl) h)
set_option maxHeartbeats 4000000 in
set_option maxRecDepth 100000 in
theorem ct_X3_hear {l : Launch} {G : GT_g} {M : Mem_m} (x0 : Nat) (x1 : Nat)  {z : Mem_m} (h : f_X3_hear G.2.2.2 M x0 x1 = some z) : MV_ l yX3_hear K_X3_hear none G M [.ref (G.1 + x0), .ref (G.1 + x1)] z :=
  met_of (by decide +kernel) rfl (Nat.le_of_ble_eq_true rfl) (fun X hl C hR => by subst hl; exact t_X3_hear C hR x0 x1  h)
