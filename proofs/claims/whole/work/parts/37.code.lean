theorem d_X12_beside_0 : decode cX12_beside 0 = .ok (.iload_n 2, 1) := by decide +kernel
theorem d_X12_beside_1 : decode cX12_beside 1 = .ok (.i2l, 1) := by decide +kernel
theorem d_X12_beside_2 : decode cX12_beside 2 = .ok (.lconst 0, 1) := by decide +kernel
theorem d_X12_beside_3 : decode cX12_beside 3 = .ok (.aload_n 0, 1) := by decide +kernel
theorem d_X12_beside_4 : decode cX12_beside 4 = .ok (.iload_n 1, 1) := by decide +kernel
theorem d_X12_beside_5 : decode cX12_beside 5 = .ok (.iconst 0, 1) := by decide +kernel
theorem d_X12_beside_6 : decode cX12_beside 6 = .ok (.invokevirtual 98, 3) := by decide +kernel
theorem d_X12_beside_9 : decode cX12_beside 9 = .ok (.iconst 1, 1) := by decide +kernel
theorem d_X12_beside_10 : decode cX12_beside 10 = .ok (.isub, 1) := by decide +kernel
theorem d_X12_beside_11 : decode cX12_beside 11 = .ok (.i2l, 1) := by decide +kernel
theorem d_X12_beside_12 : decode cX12_beside 12 = .ok (.invokestatic 69, 3) := by decide +kernel
theorem d_X12_beside_15 : decode cX12_beside 15 = .ok (.ifCond .eq 14, 3) := by decide +kernel
theorem d_X12_beside_18 : decode cX12_beside 18 = .ok (.aload_n 0, 1) := by decide +kernel
theorem d_X12_beside_19 : decode cX12_beside 19 = .ok (.iload_n 1, 1) := by decide +kernel
theorem d_X12_beside_20 : decode cX12_beside 20 = .ok (.iconst 1, 1) := by decide +kernel
theorem d_X12_beside_21 : decode cX12_beside 21 = .ok (.iload_n 2, 1) := by decide +kernel
theorem d_X12_beside_22 : decode cX12_beside 22 = .ok (.iadd, 1) := by decide +kernel
theorem d_X12_beside_23 : decode cX12_beside 23 = .ok (.invokevirtual 98, 3) := by decide +kernel
theorem d_X12_beside_26 : decode cX12_beside 26 = .ok (.goto 4, 3) := by decide +kernel
theorem d_X12_beside_29 : decode cX12_beside 29 = .ok (.iconst (-1), 1) := by decide +kernel
theorem d_X12_beside_30 : decode cX12_beside 30 = .ok (.ireturn, 1) := by decide +kernel
set_option maxHeartbeats 4000000 in
set_option maxRecDepth 100000 in
theorem t_X12_beside {X : XT_x} {G : GT_g} {M : Mem_m} {z : Int} (C : Cx_ (K_X12_beside) X G) (hR : Rx_ X G (some .int)) (x0 : Nat) (x1 : Int) (x2 : Int) (o_x1 : ok_i x1) (o_x2 : ok_i x2) (h : f_X12_beside G.2.2.2 M x0 x1 x2 = some z) : V_ (K_X12_beside) X G (Fq_ X G (Qi_ G M z)) M 0 [(0, .ref (G.1 + x0)), (1, iv_i x1), (2, iv_i x2)] [] := by
  unfold f_X12_beside at h
  refine V_iload_n (j := 2) C d_X12_beside_0 rfl rfl ?_
  refine V_i2l C d_X12_beside_1 o_x2 ?_
  refine V_lconst0 C d_X12_beside_2 ?_
  refine V_aload_n (j := 0) C d_X12_beside_3 rfl rfl ?_
  refine V_iload_n (j := 1) C d_X12_beside_4 rfl rfl ?_
  refine V_iconst C d_X12_beside_5 ?_
  refine V_callVri (K' := K_X12_of) (a := x0) (ci := 12) (av := [iv_i x1, iv_i 0]) (rest := [jv_i 0, jv_i x2]) yi_X12_of (by decide) rfl C (yk_X12_of) l1_X12_98 (by decide) d_X12_beside_6 (fun v hv => ct_X12_of x0 x1 0 o_x1 (okc rfl) hv) rfl rfl (Nat.le_of_ble_eq_true rfl) h (fun v1 o1 h => ?_)
  refine V_iconst C d_X12_beside_9 ?_
  refine V_isub C d_X12_beside_10 ?_
  refine V_i2l C d_X12_beside_11 (ok_wr _) ?_
  refine V_callSri (K' := K_X12_isIn) (av := [jv_i x2, jv_i 0, jv_i (wr_i (v1 - 1))]) (rest := []) ys_X12_isIn C (yk_X12_isIn) l1_X12_69 (by decide) d_X12_beside_12 (fun v hv => ct_X12_isIn x2 0 (wr_i (v1 - 1)) o_x2 (okc rfl) (ok_wr _) hv) rfl rfl (Nat.le_of_ble_eq_true rfl) h (fun v2 o2 h => ?_)
  refine V_if_eq (tgt := 29) C d_X12_beside_15 (by decide) o2 h (fun h => ?_) (fun h => ?_)
  · skip
    refine V_iconst C d_X12_beside_29 ?_
    exact V_iret_r C hR d_X12_beside_30 (okc rfl) h
  · skip
    refine V_aload_n (j := 0) C d_X12_beside_18 rfl rfl ?_
    refine V_iload_n (j := 1) C d_X12_beside_19 rfl rfl ?_
    refine V_iconst C d_X12_beside_20 ?_
    refine V_iload_n (j := 2) C d_X12_beside_21 rfl rfl ?_
    refine V_iadd C d_X12_beside_22 ?_
    refine V_callVri (K' := K_X12_of) (a := x0) (ci := 12) (av := [iv_i x1, iv_i (wr_i (1 + x2))]) (rest := []) yi_X12_of (by decide) rfl C (yk_X12_of) l1_X12_98 (by decide) d_X12_beside_23 (fun v hv => ct_X12_of x0 x1 (wr_i (1 + x2)) o_x1 (ok_wr _) hv) rfl rfl (Nat.le_of_ble_eq_true rfl) h (fun v3 o3 h => ?_)
    refine V_goto (tgt := 30) C d_X12_beside_26 (by decide) ?_
    exact V_iret_r C hR d_X12_beside_30 o3 h
set_option maxHeartbeats 4000000 in
set_option maxRecDepth 100000 in
theorem ct_X12_beside {l : Launch} {G : GT_g} {M : Mem_m} (x0 : Nat) (x1 : Int) (x2 : Int) (o_x1 : ok_i x1) (o_x2 : ok_i x2) {z : Int} (h : f_X12_beside G.2.2.2 M x0 x1 x2 = some z) : MI_ l yX12_beside K_X12_beside (some .int) G M [.ref (G.1 + x0), iv_i x1, iv_i x2] M z :=
  met_of (by decide +kernel) rfl (Nat.le_of_ble_eq_true rfl) (fun X hl C hR => by subst hl; exact t_X12_beside C hR x0 x1 x2 o_x1 o_x2 h)
theorem d_X12_stands_0 : decode cX12_stands 0 = .ok (.iconst 0, 1) := by decide +kernel
theorem d_X12_stands_1 : decode cX12_stands 1 = .ok (.istore 4, 2) := by decide +kernel
theorem d_X12_stands_3 : decode cX12_stands 3 = .ok (.iload 4, 2) := by decide +kernel
theorem d_X12_stands_5 : decode cX12_stands 5 = .ok (.aload_n 0, 1) := by decide +kernel
theorem d_X12_stands_6 : decode cX12_stands 6 = .ok (.getfield 9, 3) := by decide +kernel
theorem d_X12_stands_9 : decode cX12_stands 9 = .ok (.sipush 1062, 3) := by decide +kernel
theorem d_X12_stands_12 : decode cX12_stands 12 = .ok (.iaload, 1) := by decide +kernel
theorem d_X12_stands_13 : decode cX12_stands 13 = .ok (.if_icmp .ge 83, 3) := by decide +kernel
theorem d_X12_stands_16 : decode cX12_stands 16 = .ok (.iconst 0, 1) := by decide +kernel
theorem d_X12_stands_17 : decode cX12_stands 17 = .ok (.istore 5, 2) := by decide +kernel
theorem d_X12_stands_19 : decode cX12_stands 19 = .ok (.iload 5, 2) := by decide +kernel
theorem d_X12_stands_21 : decode cX12_stands 21 = .ok (.aload_n 0, 1) := by decide +kernel
theorem d_X12_stands_22 : decode cX12_stands 22 = .ok (.iload 4, 2) := by decide +kernel
theorem d_X12_stands_24 : decode cX12_stands 24 = .ok (.iconst 0, 1) := by decide +kernel
theorem d_X12_stands_25 : decode cX12_stands 25 = .ok (.invokevirtual 98, 3) := by decide +kernel
theorem d_X12_stands_28 : decode cX12_stands 28 = .ok (.if_icmp .ge 62, 3) := by decide +kernel
theorem d_X12_stands_31 : decode cX12_stands 31 = .ok (.aload_n 0, 1) := by decide +kernel
theorem d_X12_stands_32 : decode cX12_stands 32 = .ok (.iload 4, 2) := by decide +kernel
theorem d_X12_stands_34 : decode cX12_stands 34 = .ok (.invokevirtual 111, 3) := by decide +kernel
theorem d_X12_stands_37 : decode cX12_stands 37 = .ok (.ifCond .eq 53, 3) := by decide +kernel
theorem d_X12_stands_40 : decode cX12_stands 40 = .ok (.aload_n 0, 1) := by decide +kernel
theorem d_X12_stands_41 : decode cX12_stands 41 = .ok (.iload 4, 2) := by decide +kernel
theorem d_X12_stands_43 : decode cX12_stands 43 = .ok (.iconst 1, 1) := by decide +kernel
theorem d_X12_stands_44 : decode cX12_stands 44 = .ok (.iload 5, 2) := by decide +kernel
theorem d_X12_stands_46 : decode cX12_stands 46 = .ok (.iadd, 1) := by decide +kernel
theorem d_X12_stands_47 : decode cX12_stands 47 = .ok (.invokevirtual 98, 3) := by decide +kernel
theorem d_X12_stands_50 : decode cX12_stands 50 = .ok (.iload_n 1, 1) := by decide +kernel
theorem d_X12_stands_51 : decode cX12_stands 51 = .ok (.if_icmp .ne 33, 3) := by decide +kernel
theorem d_X12_stands_54 : decode cX12_stands 54 = .ok (.aload_n 0, 1) := by decide +kernel
theorem d_X12_stands_55 : decode cX12_stands 55 = .ok (.iload 4, 2) := by decide +kernel
theorem d_X12_stands_57 : decode cX12_stands 57 = .ok (.iload 5, 2) := by decide +kernel
theorem d_X12_stands_59 : decode cX12_stands 59 = .ok (.iconst 1, 1) := by decide +kernel
theorem d_X12_stands_60 : decode cX12_stands 60 = .ok (.isub, 1) := by decide +kernel
theorem d_X12_stands_61 : decode cX12_stands 61 = .ok (.invokevirtual 117, 3) := by decide +kernel
theorem d_X12_stands_64 : decode cX12_stands 64 = .ok (.iload_n 2, 1) := by decide +kernel
theorem d_X12_stands_65 : decode cX12_stands 65 = .ok (.if_icmp .ne 19, 3) := by decide +kernel
theorem d_X12_stands_68 : decode cX12_stands 68 = .ok (.aload_n 0, 1) := by decide +kernel
theorem d_X12_stands_69 : decode cX12_stands 69 = .ok (.iload 4, 2) := by decide +kernel
theorem d_X12_stands_71 : decode cX12_stands 71 = .ok (.iload 5, 2) := by decide +kernel
theorem d_X12_stands_73 : decode cX12_stands 73 = .ok (.iconst 1, 1) := by decide +kernel
theorem d_X12_stands_74 : decode cX12_stands 74 = .ok (.iadd, 1) := by decide +kernel
theorem d_X12_stands_75 : decode cX12_stands 75 = .ok (.invokevirtual 117, 3) := by decide +kernel
theorem d_X12_stands_78 : decode cX12_stands 78 = .ok (.iload_n 3, 1) := by decide +kernel
theorem d_X12_stands_79 : decode cX12_stands 79 = .ok (.if_icmp .ne 5, 3) := by decide +kernel
theorem d_X12_stands_82 : decode cX12_stands 82 = .ok (.iconst 1, 1) := by decide +kernel
theorem d_X12_stands_83 : decode cX12_stands 83 = .ok (.ireturn, 1) := by decide +kernel
theorem d_X12_stands_84 : decode cX12_stands 84 = .ok (.iinc 5 1, 3) := by decide +kernel
theorem d_X12_stands_87 : decode cX12_stands 87 = .ok (.goto (-68), 3) := by decide +kernel
theorem d_X12_stands_90 : decode cX12_stands 90 = .ok (.iinc 4 1, 3) := by decide +kernel
theorem d_X12_stands_93 : decode cX12_stands 93 = .ok (.goto (-90), 3) := by decide +kernel
theorem d_X12_stands_96 : decode cX12_stands 96 = .ok (.iconst 0, 1) := by decide +kernel
theorem d_X12_stands_97 : decode cX12_stands 97 = .ok (.ireturn, 1) := by decide +kernel
set_option maxHeartbeats 4000000 in
set_option maxRecDepth 100000 in
theorem t_X12_stands_19 {X : XT_x} {G : GT_g} {z : Int} (C : Cx_ (K_X12_stands) X G) (hR : Rx_ X G (some .boolean)) (M : Mem_m) (x0 : Nat) (x1 : Int) (x2 : Int) (x3 : Int) (x4 : Int) (o_x1 : ok_i x1) (o_x2 : ok_i x2) (o_x3 : ok_i x3) (o_x4 : ok_i x4) (k_3 : Int → Option Int) (hk_3 : ∀ (x4 : Int) (o_x4 : ok_i x4), k_3 x4 = some z → V_ (K_X12_stands) X G (Fq_ X G (Qi_ G M z)) M 3 [(0, .ref (G.1 + x0)), (1, iv_i x1), (2, iv_i x2), (3, iv_i x3), (4, iv_i x4)] []) : ∀ (n : Nat) (x5 : Int) (o_x5 : ok_i x5), f_X12_stands_19 G.2.2.2 k_3 M x0 x1 x2 x3 x4 n x5 = some z → V_ (K_X12_stands) X G (Fq_ X G (Qi_ G M z)) M 19 [(0, .ref (G.1 + x0)), (1, iv_i x1), (2, iv_i x2), (3, iv_i x3), (4, iv_i x4), (5, iv_i x5)] [] := by
  intro n
  induction n with
  | zero => intro x5 o_x5 h; exact absurd h (by simp [f_X12_stands_19])
  | succ n ih =>
    intro x5 o_x5 h
    unfold f_X12_stands_19 at h
    refine V_iload (j := 5) C d_X12_stands_19 rfl ?_
    refine V_aload_n (j := 0) C d_X12_stands_21 rfl rfl ?_
    refine V_iload (j := 4) C d_X12_stands_22 rfl ?_
    refine V_iconst C d_X12_stands_24 ?_
    refine V_callVri (K' := K_X12_of) (a := x0) (ci := 12) (av := [iv_i x4, iv_i 0]) (rest := [iv_i x5]) yi_X12_of (by decide) rfl C (yk_X12_of) l1_X12_98 (by decide) d_X12_stands_25 (fun v hv => ct_X12_of x0 x4 0 o_x4 (okc rfl) hv) rfl rfl (Nat.le_of_ble_eq_true rfl) h (fun v1 o1 h => ?_)
    refine V_icmp_ge (tgt := 90) C d_X12_stands_28 (by decide) o_x5 o1 h (fun h => ?_) (fun h => ?_)
    · skip
      refine V_aload_n (j := 0) C d_X12_stands_31 rfl rfl ?_
      refine V_iload (j := 4) C d_X12_stands_32 rfl ?_
      refine V_callVri (K' := K_X12_counts) (a := x0) (ci := 12) (av := [iv_i x4]) (rest := []) yi_X12_counts (by decide) rfl C (yk_X12_counts) l1_X12_111 (by decide) d_X12_stands_34 (fun v hv => ct_X12_counts x0 x4 o_x4 hv) rfl rfl (Nat.le_of_ble_eq_true rfl) h (fun v2 o2 h => ?_)
      refine V_if_eq (tgt := 90) C d_X12_stands_37 (by decide) o2 h (fun h => ?_) (fun h => ?_)
      · skip
        refine V_iinc (j := 4) (lv' := [(4, iv_i (wr_i (x4 + 1))), (0, .ref (G.1 + x0)), (1, iv_i x1), (2, iv_i x2), (3, iv_i x3), (5, iv_i x5)]) C d_X12_stands_90 rfl (by decide) rfl ?_
        refine V_goto (tgt := 3) C d_X12_stands_93 (by decide) ?_
        refine V_lv [1, 2, 3, 4, 0] rfl (hk_3 (wr_i (x4 + 1)) (ok_wr _) h)
      · skip
        refine V_aload_n (j := 0) C d_X12_stands_40 rfl rfl ?_
        refine V_iload (j := 4) C d_X12_stands_41 rfl ?_
        refine V_iconst C d_X12_stands_43 ?_
        refine V_iload (j := 5) C d_X12_stands_44 rfl ?_
        refine V_iadd C d_X12_stands_46 ?_
        refine V_callVri (K' := K_X12_of) (a := x0) (ci := 12) (av := [iv_i x4, iv_i (wr_i (1 + x5))]) (rest := []) yi_X12_of (by decide) rfl C (yk_X12_of) l1_X12_98 (by decide) d_X12_stands_47 (fun v hv => ct_X12_of x0 x4 (wr_i (1 + x5)) o_x4 (ok_wr _) hv) rfl rfl (Nat.le_of_ble_eq_true rfl) h (fun v3 o3 h => ?_)
        refine V_iload_n (j := 1) C d_X12_stands_50 rfl rfl ?_
        refine V_icmp_ne (tgt := 84) C d_X12_stands_51 (by decide) o3 o_x1 h (fun h => ?_) (fun h => ?_)
        · skip
          refine V_aload_n (j := 0) C d_X12_stands_54 rfl rfl ?_
          refine V_iload (j := 4) C d_X12_stands_55 rfl ?_
          refine V_iload (j := 5) C d_X12_stands_57 rfl ?_
          refine V_iconst C d_X12_stands_59 ?_
          refine V_isub C d_X12_stands_60 ?_
          refine V_callVri (K' := K_X12_beside) (a := x0) (ci := 12) (av := [iv_i x4, iv_i (wr_i (x5 - 1))]) (rest := []) yi_X12_beside (by decide) rfl C (yk_X12_beside) l1_X12_117 (by decide) d_X12_stands_61 (fun v hv => ct_X12_beside x0 x4 (wr_i (x5 - 1)) o_x4 (ok_wr _) hv) rfl rfl (Nat.le_of_ble_eq_true rfl) h (fun v4 o4 h => ?_)
          refine V_iload_n (j := 2) C d_X12_stands_64 rfl rfl ?_
          refine V_icmp_ne (tgt := 84) C d_X12_stands_65 (by decide) o4 o_x2 h (fun h => ?_) (fun h => ?_)
          · skip
            refine V_aload_n (j := 0) C d_X12_stands_68 rfl rfl ?_
            refine V_iload (j := 4) C d_X12_stands_69 rfl ?_
            refine V_iload (j := 5) C d_X12_stands_71 rfl ?_
            refine V_iconst C d_X12_stands_73 ?_
            refine V_iadd C d_X12_stands_74 ?_
            refine V_callVri (K' := K_X12_beside) (a := x0) (ci := 12) (av := [iv_i x4, iv_i (wr_i (x5 + 1))]) (rest := []) yi_X12_beside (by decide) rfl C (yk_X12_beside) l1_X12_117 (by decide) d_X12_stands_75 (fun v hv => ct_X12_beside x0 x4 (wr_i (x5 + 1)) o_x4 (ok_wr _) hv) rfl rfl (Nat.le_of_ble_eq_true rfl) h (fun v5 o5 h => ?_)
            refine V_iload_n (j := 3) C d_X12_stands_78 rfl rfl ?_
            refine V_icmp_ne (tgt := 84) C d_X12_stands_79 (by decide) o5 o_x3 h (fun h => ?_) (fun h => ?_)
            · skip
              refine V_iconst C d_X12_stands_82 ?_
              exact V_zret_r C hR d_X12_stands_83 (Or.inr rfl) h
            · skip
              refine V_iinc (j := 5) (lv' := [(5, iv_i (wr_i (x5 + 1))), (0, .ref (G.1 + x0)), (1, iv_i x1), (2, iv_i x2), (3, iv_i x3), (4, iv_i x4)]) C d_X12_stands_84 rfl (by decide) rfl ?_
              refine V_goto (tgt := 19) C d_X12_stands_87 (by decide) ?_
              refine V_lv [1, 2, 3, 4, 5, 0] rfl (ih (wr_i (x5 + 1)) (ok_wr _) h)
          · skip
            refine V_iinc (j := 5) (lv' := [(5, iv_i (wr_i (x5 + 1))), (0, .ref (G.1 + x0)), (1, iv_i x1), (2, iv_i x2), (3, iv_i x3), (4, iv_i x4)]) C d_X12_stands_84 rfl (by decide) rfl ?_
            refine V_goto (tgt := 19) C d_X12_stands_87 (by decide) ?_
            refine V_lv [1, 2, 3, 4, 5, 0] rfl (ih (wr_i (x5 + 1)) (ok_wr _) h)
        · skip
          refine V_iinc (j := 5) (lv' := [(5, iv_i (wr_i (x5 + 1))), (0, .ref (G.1 + x0)), (1, iv_i x1), (2, iv_i x2), (3, iv_i x3), (4, iv_i x4)]) C d_X12_stands_84 rfl (by decide) rfl ?_
          refine V_goto (tgt := 19) C d_X12_stands_87 (by decide) ?_
          refine V_lv [1, 2, 3, 4, 5, 0] rfl (ih (wr_i (x5 + 1)) (ok_wr _) h)
    · skip
      refine V_iinc (j := 4) (lv' := [(4, iv_i (wr_i (x4 + 1))), (0, .ref (G.1 + x0)), (1, iv_i x1), (2, iv_i x2), (3, iv_i x3), (5, iv_i x5)]) C d_X12_stands_90 rfl (by decide) rfl ?_
      refine V_goto (tgt := 3) C d_X12_stands_93 (by decide) ?_
      refine V_lv [1, 2, 3, 4, 0] rfl (hk_3 (wr_i (x4 + 1)) (ok_wr _) h)
set_option maxHeartbeats 4000000 in
set_option maxRecDepth 100000 in
theorem t_X12_stands_3 {X : XT_x} {G : GT_g} {z : Int} (C : Cx_ (K_X12_stands) X G) (hR : Rx_ X G (some .boolean)) (M : Mem_m) (x0 : Nat) (x1 : Int) (x2 : Int) (x3 : Int) (o_x1 : ok_i x1) (o_x2 : ok_i x2) (o_x3 : ok_i x3) : ∀ (n : Nat) (x4 : Int) (o_x4 : ok_i x4), f_X12_stands_3 G.2.2.2 M x0 x1 x2 x3 n x4 = some z → V_ (K_X12_stands) X G (Fq_ X G (Qi_ G M z)) M 3 [(0, .ref (G.1 + x0)), (1, iv_i x1), (2, iv_i x2), (3, iv_i x3), (4, iv_i x4)] [] := by
  intro n
  induction n with
  | zero => intro x4 o_x4 h; exact absurd h (by simp [f_X12_stands_3])
  | succ n ih =>
    intro x4 o_x4 h
    unfold f_X12_stands_3 at h
    refine V_iload (j := 4) C d_X12_stands_3 rfl ?_
    refine V_aload_n (j := 0) C d_X12_stands_5 rfl rfl ?_
    refine V_getR C ck_12 fw_X12_9 d_X12_stands_6 h (fun v1 h => ?_)
    refine V_sipush (v := 1062) C d_X12_stands_9 rfl ?_
    refine V_iald C d_X12_stands_12 (okc rfl) h (fun v2 o2 h => ?_)
    refine V_icmp_ge (tgt := 96) C d_X12_stands_13 (by decide) o_x4 o2 h (fun h => ?_) (fun h => ?_)
    · skip
      refine V_iconst C d_X12_stands_16 ?_
      refine V_istore (lv' := [(5, iv_i 0), (0, .ref (G.1 + x0)), (1, iv_i x1), (2, iv_i x2), (3, iv_i x3), (4, iv_i x4)]) C d_X12_stands_17 (by decide) rfl ?_
      refine V_lv [1, 2, 3, 4, 5, 0] rfl (t_X12_stands_19 C hR M x0 x1 x2 x3 x4 o_x1 o_x2 o_x3 o_x4 (fun x4 => f_X12_stands_3 G.2.2.2 M x0 x1 x2 x3 n x4) (fun x4 o_x4 h9 => ih x4 o_x4 h9) FU_ 0 (okc rfl) h)
    · skip
      refine V_iconst C d_X12_stands_96 ?_
      exact V_zret_r C hR d_X12_stands_97 (Or.inl rfl) h
set_option maxHeartbeats 4000000 in
set_option maxRecDepth 100000 in
theorem t_X12_stands {X : XT_x} {G : GT_g} {M : Mem_m} {z : Int} (C : Cx_ (K_X12_stands) X G) (hR : Rx_ X G (some .boolean)) (x0 : Nat) (x1 : Int) (x2 : Int) (x3 : Int) (o_x1 : ok_i x1) (o_x2 : ok_i x2) (o_x3 : ok_i x3) (h : f_X12_stands G.2.2.2 M x0 x1 x2 x3 = some z) : V_ (K_X12_stands) X G (Fq_ X G (Qi_ G M z)) M 0 [(0, .ref (G.1 + x0)), (1, iv_i x1), (2, iv_i x2), (3, iv_i x3)] [] := by
  unfold f_X12_stands at h
  refine V_iconst C d_X12_stands_0 ?_
  refine V_istore (lv' := [(4, iv_i 0), (0, .ref (G.1 + x0)), (1, iv_i x1), (2, iv_i x2), (3, iv_i x3)]) C d_X12_stands_1 (by decide) rfl ?_
  refine V_lv [1, 2, 3, 4, 0] rfl (t_X12_stands_3 C hR M x0 x1 x2 x3 o_x1 o_x2 o_x3 FU_ 0 (okc rfl) h)
set_option maxHeartbeats 4000000 in
set_option maxRecDepth 100000 in
theorem ct_X12_stands {l : Launch} {G : GT_g} {M : Mem_m} (x0 : Nat) (x1 : Int) (x2 : Int) (x3 : Int) (o_x1 : ok_i x1) (o_x2 : ok_i x2) (o_x3 : ok_i x3) {z : Int} (h : f_X12_stands G.2.2.2 M x0 x1 x2 x3 = some z) : MI_ l yX12_stands K_X12_stands (some .boolean) G M [.ref (G.1 + x0), iv_i x1, iv_i x2, iv_i x3] M z :=
  met_of (by decide +kernel) rfl (Nat.le_of_ble_eq_true rfl) (fun X hl C hR => by subst hl; exact t_X12_stands C hR x0 x1 x2 x3 o_x1 o_x2 o_x3 h)
theorem d_X12_oneOrTwo_0 : decode cX12_oneOrTwo 0 = .ok (.iload_n 1, 1) := by decide +kernel
theorem d_X12_oneOrTwo_1 : decode cX12_oneOrTwo 1 = .ok (.i2l, 1) := by decide +kernel
theorem d_X12_oneOrTwo_2 : decode cX12_oneOrTwo 2 = .ok (.lconst 0, 1) := by decide +kernel
theorem d_X12_oneOrTwo_3 : decode cX12_oneOrTwo 3 = .ok (.ldc2_w 83, 3) := by decide +kernel
theorem d_X12_oneOrTwo_6 : decode cX12_oneOrTwo 6 = .ok (.invokestatic 69, 3) := by decide +kernel
theorem d_X12_oneOrTwo_9 : decode cX12_oneOrTwo 9 = .ok (.ifCond .eq 20, 3) := by decide +kernel
theorem d_X12_oneOrTwo_12 : decode cX12_oneOrTwo 12 = .ok (.iload_n 2, 1) := by decide +kernel
theorem d_X12_oneOrTwo_13 : decode cX12_oneOrTwo 13 = .ok (.i2l, 1) := by decide +kernel
theorem d_X12_oneOrTwo_14 : decode cX12_oneOrTwo 14 = .ok (.lconst 0, 1) := by decide +kernel
theorem d_X12_oneOrTwo_15 : decode cX12_oneOrTwo 15 = .ok (.ldc2_w 83, 3) := by decide +kernel
theorem d_X12_oneOrTwo_18 : decode cX12_oneOrTwo 18 = .ok (.invokestatic 69, 3) := by decide +kernel
theorem d_X12_oneOrTwo_21 : decode cX12_oneOrTwo 21 = .ok (.ifCond .eq 8, 3) := by decide +kernel
theorem d_X12_oneOrTwo_24 : decode cX12_oneOrTwo 24 = .ok (.iload_n 1, 1) := by decide +kernel
theorem d_X12_oneOrTwo_25 : decode cX12_oneOrTwo 25 = .ok (.iload_n 2, 1) := by decide +kernel
theorem d_X12_oneOrTwo_26 : decode cX12_oneOrTwo 26 = .ok (.if_icmp .ne 5, 3) := by decide +kernel
theorem d_X12_oneOrTwo_29 : decode cX12_oneOrTwo 29 = .ok (.iconst (-1), 1) := by decide +kernel
theorem d_X12_oneOrTwo_30 : decode cX12_oneOrTwo 30 = .ok (.ireturn, 1) := by decide +kernel
theorem d_X12_oneOrTwo_31 : decode cX12_oneOrTwo 31 = .ok (.aload_n 0, 1) := by decide +kernel
theorem d_X12_oneOrTwo_32 : decode cX12_oneOrTwo 32 = .ok (.iload_n 1, 1) := by decide +kernel
theorem d_X12_oneOrTwo_33 : decode cX12_oneOrTwo 33 = .ok (.iload_n 2, 1) := by decide +kernel
theorem d_X12_oneOrTwo_34 : decode cX12_oneOrTwo 34 = .ok (.invokevirtual 120, 3) := by decide +kernel
theorem d_X12_oneOrTwo_37 : decode cX12_oneOrTwo 37 = .ok (.ifCond .eq 5, 3) := by decide +kernel
theorem d_X12_oneOrTwo_40 : decode cX12_oneOrTwo 40 = .ok (.iconst 2, 1) := by decide +kernel
theorem d_X12_oneOrTwo_41 : decode cX12_oneOrTwo 41 = .ok (.ireturn, 1) := by decide +kernel
theorem d_X12_oneOrTwo_42 : decode cX12_oneOrTwo 42 = .ok (.iconst (-1), 1) := by decide +kernel
theorem d_X12_oneOrTwo_43 : decode cX12_oneOrTwo 43 = .ok (.istore_n 3, 1) := by decide +kernel
theorem d_X12_oneOrTwo_44 : decode cX12_oneOrTwo 44 = .ok (.iload_n 3, 1) := by decide +kernel
theorem d_X12_oneOrTwo_45 : decode cX12_oneOrTwo 45 = .ok (.bipush 10, 2) := by decide +kernel
theorem d_X12_oneOrTwo_47 : decode cX12_oneOrTwo 47 = .ok (.if_icmp .ge 49, 3) := by decide +kernel
theorem d_X12_oneOrTwo_50 : decode cX12_oneOrTwo 50 = .ok (.iconst (-1), 1) := by decide +kernel
theorem d_X12_oneOrTwo_51 : decode cX12_oneOrTwo 51 = .ok (.istore 4, 2) := by decide +kernel
theorem d_X12_oneOrTwo_53 : decode cX12_oneOrTwo 53 = .ok (.iload 4, 2) := by decide +kernel
theorem d_X12_oneOrTwo_55 : decode cX12_oneOrTwo 55 = .ok (.bipush 10, 2) := by decide +kernel
theorem d_X12_oneOrTwo_57 : decode cX12_oneOrTwo 57 = .ok (.if_icmp .ge 33, 3) := by decide +kernel
theorem d_X12_oneOrTwo_60 : decode cX12_oneOrTwo 60 = .ok (.aload_n 0, 1) := by decide +kernel
theorem d_X12_oneOrTwo_61 : decode cX12_oneOrTwo 61 = .ok (.iload_n 1, 1) := by decide +kernel
theorem d_X12_oneOrTwo_62 : decode cX12_oneOrTwo 62 = .ok (.iload_n 3, 1) := by decide +kernel
theorem d_X12_oneOrTwo_63 : decode cX12_oneOrTwo 63 = .ok (.iload 4, 2) := by decide +kernel
theorem d_X12_oneOrTwo_65 : decode cX12_oneOrTwo 65 = .ok (.invokevirtual 124, 3) := by decide +kernel
theorem d_X12_oneOrTwo_68 : decode cX12_oneOrTwo 68 = .ok (.ifCond .eq 16, 3) := by decide +kernel
theorem d_X12_oneOrTwo_71 : decode cX12_oneOrTwo 71 = .ok (.aload_n 0, 1) := by decide +kernel
theorem d_X12_oneOrTwo_72 : decode cX12_oneOrTwo 72 = .ok (.iload_n 2, 1) := by decide +kernel
theorem d_X12_oneOrTwo_73 : decode cX12_oneOrTwo 73 = .ok (.iload_n 3, 1) := by decide +kernel
theorem d_X12_oneOrTwo_74 : decode cX12_oneOrTwo 74 = .ok (.iload 4, 2) := by decide +kernel
theorem d_X12_oneOrTwo_76 : decode cX12_oneOrTwo 76 = .ok (.invokevirtual 124, 3) := by decide +kernel
theorem d_X12_oneOrTwo_79 : decode cX12_oneOrTwo 79 = .ok (.ifCond .eq 5, 3) := by decide +kernel
theorem d_X12_oneOrTwo_82 : decode cX12_oneOrTwo 82 = .ok (.iconst 1, 1) := by decide +kernel
theorem d_X12_oneOrTwo_83 : decode cX12_oneOrTwo 83 = .ok (.ireturn, 1) := by decide +kernel
theorem d_X12_oneOrTwo_84 : decode cX12_oneOrTwo 84 = .ok (.iinc 4 1, 3) := by decide +kernel
theorem d_X12_oneOrTwo_87 : decode cX12_oneOrTwo 87 = .ok (.goto (-34), 3) := by decide +kernel
theorem d_X12_oneOrTwo_90 : decode cX12_oneOrTwo 90 = .ok (.iinc 3 1, 3) := by decide +kernel
theorem d_X12_oneOrTwo_93 : decode cX12_oneOrTwo 93 = .ok (.goto (-49), 3) := by decide +kernel
theorem d_X12_oneOrTwo_96 : decode cX12_oneOrTwo 96 = .ok (.iconst 0, 1) := by decide +kernel
theorem d_X12_oneOrTwo_97 : decode cX12_oneOrTwo 97 = .ok (.ireturn, 1) := by decide +kernel
set_option maxHeartbeats 4000000 in
set_option maxRecDepth 100000 in
theorem t_X12_oneOrTwo_53 {X : XT_x} {G : GT_g} {z : (Mem_m × Int)} (C : Cx_ (K_X12_oneOrTwo) X G) (hR : Rx_ X G (some .int)) (M : Mem_m) (x0 : Nat) (x1 : Int) (x2 : Int) (x3 : Int) (o_x1 : ok_i x1) (o_x2 : ok_i x2) (o_x3 : ok_i x3) (k_44 : Int → Option (Mem_m × Int)) (hk_44 : ∀ (x3 : Int) (o_x3 : ok_i x3), k_44 x3 = some z → V_ (K_X12_oneOrTwo) X G (Fq_ X G (Qi_ G z.1 z.2)) M 44 [(0, .ref (G.1 + x0)), (1, iv_i x1), (2, iv_i x2), (3, iv_i x3)] []) : ∀ (n : Nat) (x4 : Int) (o_x4 : ok_i x4), f_X12_oneOrTwo_53 G.2.2.2 k_44 M x0 x1 x2 x3 n x4 = some z → V_ (K_X12_oneOrTwo) X G (Fq_ X G (Qi_ G z.1 z.2)) M 53 [(0, .ref (G.1 + x0)), (1, iv_i x1), (2, iv_i x2), (3, iv_i x3), (4, iv_i x4)] [] := by
  intro n
  induction n with
  | zero => intro x4 o_x4 h; exact absurd h (by simp [f_X12_oneOrTwo_53])
  | succ n ih =>
    intro x4 o_x4 h
    unfold f_X12_oneOrTwo_53 at h
    refine V_iload (j := 4) C d_X12_oneOrTwo_53 rfl ?_
    refine V_bipush (v := 10) C d_X12_oneOrTwo_55 rfl ?_
    refine V_icmp_ge (tgt := 90) C d_X12_oneOrTwo_57 (by decide) o_x4 (okc rfl) h (fun h => ?_) (fun h => ?_)
    · skip
      refine V_aload_n (j := 0) C d_X12_oneOrTwo_60 rfl rfl ?_
      refine V_iload_n (j := 1) C d_X12_oneOrTwo_61 rfl rfl ?_
      refine V_iload_n (j := 3) C d_X12_oneOrTwo_62 rfl rfl ?_
      refine V_iload (j := 4) C d_X12_oneOrTwo_63 rfl ?_
      refine V_callVri (K' := K_X12_stands) (a := x0) (ci := 12) (av := [iv_i x1, iv_i x3, iv_i x4]) (rest := []) yi_X12_stands (by decide) rfl C (yk_X12_stands) l1_X12_124 (by decide) d_X12_oneOrTwo_65 (fun v hv => ct_X12_stands x0 x1 x3 x4 o_x1 o_x3 o_x4 hv) rfl rfl (Nat.le_of_ble_eq_true rfl) h (fun v1 o1 h => ?_)
      refine V_if_eq (tgt := 84) C d_X12_oneOrTwo_68 (by decide) o1 h (fun h => ?_) (fun h => ?_)
      · skip
        refine V_iinc (j := 4) (lv' := [(4, iv_i (wr_i (x4 + 1))), (0, .ref (G.1 + x0)), (1, iv_i x1), (2, iv_i x2), (3, iv_i x3)]) C d_X12_oneOrTwo_84 rfl (by decide) rfl ?_
        refine V_goto (tgt := 53) C d_X12_oneOrTwo_87 (by decide) ?_
        refine V_lv [1, 2, 3, 4, 0] rfl (ih (wr_i (x4 + 1)) (ok_wr _) h)
      · skip
        refine V_aload_n (j := 0) C d_X12_oneOrTwo_71 rfl rfl ?_
        refine V_iload_n (j := 2) C d_X12_oneOrTwo_72 rfl rfl ?_
        refine V_iload_n (j := 3) C d_X12_oneOrTwo_73 rfl rfl ?_
        refine V_iload (j := 4) C d_X12_oneOrTwo_74 rfl ?_
        refine V_callVri (K' := K_X12_stands) (a := x0) (ci := 12) (av := [iv_i x2, iv_i x3, iv_i x4]) (rest := []) yi_X12_stands (by decide) rfl C (yk_X12_stands) l1_X12_124 (by decide) d_X12_oneOrTwo_76 (fun v hv => ct_X12_stands x0 x2 x3 x4 o_x2 o_x3 o_x4 hv) rfl rfl (Nat.le_of_ble_eq_true rfl) h (fun v2 o2 h => ?_)
        refine V_if_eq (tgt := 84) C d_X12_oneOrTwo_79 (by decide) o2 h (fun h => ?_) (fun h => ?_)
        · skip
          refine V_iinc (j := 4) (lv' := [(4, iv_i (wr_i (x4 + 1))), (0, .ref (G.1 + x0)), (1, iv_i x1), (2, iv_i x2), (3, iv_i x3)]) C d_X12_oneOrTwo_84 rfl (by decide) rfl ?_
          refine V_goto (tgt := 53) C d_X12_oneOrTwo_87 (by decide) ?_
          refine V_lv [1, 2, 3, 4, 0] rfl (ih (wr_i (x4 + 1)) (ok_wr _) h)
        · skip
          refine V_iconst C d_X12_oneOrTwo_82 ?_
          exact V_iret_w C hR d_X12_oneOrTwo_83 (okc rfl) h
    · skip
      refine V_iinc (j := 3) (lv' := [(3, iv_i (wr_i (x3 + 1))), (0, .ref (G.1 + x0)), (1, iv_i x1), (2, iv_i x2), (4, iv_i x4)]) C d_X12_oneOrTwo_90 rfl (by decide) rfl ?_
      refine V_goto (tgt := 44) C d_X12_oneOrTwo_93 (by decide) ?_
      refine V_lv [1, 2, 3, 0] rfl (hk_44 (wr_i (x3 + 1)) (ok_wr _) h)
set_option maxHeartbeats 4000000 in
set_option maxRecDepth 100000 in
theorem t_X12_oneOrTwo_44 {X : XT_x} {G : GT_g} {z : (Mem_m × Int)} (C : Cx_ (K_X12_oneOrTwo) X G) (hR : Rx_ X G (some .int)) (M : Mem_m) (x0 : Nat) (x1 : Int) (x2 : Int) (o_x1 : ok_i x1) (o_x2 : ok_i x2) : ∀ (n : Nat) (x3 : Int) (o_x3 : ok_i x3), f_X12_oneOrTwo_44 G.2.2.2 M x0 x1 x2 n x3 = some z → V_ (K_X12_oneOrTwo) X G (Fq_ X G (Qi_ G z.1 z.2)) M 44 [(0, .ref (G.1 + x0)), (1, iv_i x1), (2, iv_i x2), (3, iv_i x3)] [] := by
  intro n
  induction n with
  | zero => intro x3 o_x3 h; exact absurd h (by simp [f_X12_oneOrTwo_44])
  | succ n ih =>
    intro x3 o_x3 h
    unfold f_X12_oneOrTwo_44 at h
    refine V_iload_n (j := 3) C d_X12_oneOrTwo_44 rfl rfl ?_
    refine V_bipush (v := 10) C d_X12_oneOrTwo_45 rfl ?_
    refine V_icmp_ge (tgt := 96) C d_X12_oneOrTwo_47 (by decide) o_x3 (okc rfl) h (fun h => ?_) (fun h => ?_)
    · skip
      refine V_iconst C d_X12_oneOrTwo_50 ?_
      refine V_istore (lv' := [(4, iv_i (-1)), (0, .ref (G.1 + x0)), (1, iv_i x1), (2, iv_i x2), (3, iv_i x3)]) C d_X12_oneOrTwo_51 (by decide) rfl ?_
      refine V_lv [1, 2, 3, 4, 0] rfl (t_X12_oneOrTwo_53 C hR M x0 x1 x2 x3 o_x1 o_x2 o_x3 (fun x3 => f_X12_oneOrTwo_44 G.2.2.2 M x0 x1 x2 n x3) (fun x3 o_x3 h9 => ih x3 o_x3 h9) FU_ (-1) (okc rfl) h)
    · skip
      refine V_iconst C d_X12_oneOrTwo_96 ?_
      exact V_iret_w C hR d_X12_oneOrTwo_97 (okc rfl) h
set_option maxHeartbeats 4000000 in
set_option maxRecDepth 100000 in
theorem t_X12_oneOrTwo {X : XT_x} {G : GT_g} {M : Mem_m} {z : (Mem_m × Int)} (C : Cx_ (K_X12_oneOrTwo) X G) (hR : Rx_ X G (some .int)) (x0 : Nat) (x1 : Int) (x2 : Int) (o_x1 : ok_i x1) (o_x2 : ok_i x2) (h : f_X12_oneOrTwo G.2.2.2 M x0 x1 x2 = some z) : V_ (K_X12_oneOrTwo) X G (Fq_ X G (Qi_ G z.1 z.2)) M 0 [(0, .ref (G.1 + x0)), (1, iv_i x1), (2, iv_i x2)] [] := by
  unfold f_X12_oneOrTwo at h
  refine V_iload_n (j := 1) C d_X12_oneOrTwo_0 rfl rfl ?_
  refine V_i2l C d_X12_oneOrTwo_1 o_x1 ?_
  refine V_lconst0 C d_X12_oneOrTwo_2 ?_
  refine V_ldc2 (v := 9) C d_X12_oneOrTwo_3 cl_X12_83 ?_
  refine V_callSri (K' := K_X12_isIn) (av := [jv_i x1, jv_i 0, jv_i 9]) (rest := []) ys_X12_isIn C (yk_X12_isIn) l1_X12_69 (by decide) d_X12_oneOrTwo_6 (fun v hv => ct_X12_isIn x1 0 9 o_x1 (okc rfl) (okc rfl) hv) rfl rfl (Nat.le_of_ble_eq_true rfl) h (fun v1 o1 h => ?_)
  refine V_if_eq (tgt := 29) C d_X12_oneOrTwo_9 (by decide) o1 h (fun h => ?_) (fun h => ?_)
  · skip
    refine V_iconst C d_X12_oneOrTwo_29 ?_
    exact V_iret_w C hR d_X12_oneOrTwo_30 (okc rfl) h
  · skip
    refine V_iload_n (j := 2) C d_X12_oneOrTwo_12 rfl rfl ?_
    refine V_i2l C d_X12_oneOrTwo_13 o_x2 ?_
    refine V_lconst0 C d_X12_oneOrTwo_14 ?_
    refine V_ldc2 (v := 9) C d_X12_oneOrTwo_15 cl_X12_83 ?_
    refine V_callSri (K' := K_X12_isIn) (av := [jv_i x2, jv_i 0, jv_i 9]) (rest := []) ys_X12_isIn C (yk_X12_isIn) l1_X12_69 (by decide) d_X12_oneOrTwo_18 (fun v hv => ct_X12_isIn x2 0 9 o_x2 (okc rfl) (okc rfl) hv) rfl rfl (Nat.le_of_ble_eq_true rfl) h (fun v2 o2 h => ?_)
    refine V_if_eq (tgt := 29) C d_X12_oneOrTwo_21 (by decide) o2 h (fun h => ?_) (fun h => ?_)
    · skip
      refine V_iconst C d_X12_oneOrTwo_29 ?_
      exact V_iret_w C hR d_X12_oneOrTwo_30 (okc rfl) h
    · skip
      refine V_iload_n (j := 1) C d_X12_oneOrTwo_24 rfl rfl ?_
      refine V_iload_n (j := 2) C d_X12_oneOrTwo_25 rfl rfl ?_
      refine V_icmp_ne (tgt := 31) C d_X12_oneOrTwo_26 (by decide) o_x1 o_x2 h (fun h => ?_) (fun h => ?_)
      · skip
        refine V_iconst C d_X12_oneOrTwo_29 ?_
        exact V_iret_w C hR d_X12_oneOrTwo_30 (okc rfl) h
      · skip
        refine V_aload_n (j := 0) C d_X12_oneOrTwo_31 rfl rfl ?_
        refine V_iload_n (j := 1) C d_X12_oneOrTwo_32 rfl rfl ?_
        refine V_iload_n (j := 2) C d_X12_oneOrTwo_33 rfl rfl ?_
        refine V_callVwi (K' := K_X12_areTwo) (a := x0) (ci := 12) (av := [iv_i x1, iv_i x2]) (rest := []) yi_X12_areTwo (by decide) rfl C (yk_X12_areTwo) l1_X12_120 (by decide) d_X12_oneOrTwo_34 (fun v hv => ct_X12_areTwo x0 x1 x2 o_x1 o_x2 hv) rfl rfl (Nat.le_of_ble_eq_true rfl) h (fun z3 o3 h => ?_)
        refine V_if_eq (tgt := 42) C d_X12_oneOrTwo_37 (by decide) o3 h (fun h => ?_) (fun h => ?_)
        · skip
          refine V_iconst C d_X12_oneOrTwo_42 ?_
          refine V_istore_n (lv' := [(3, iv_i (-1)), (0, .ref (G.1 + x0)), (1, iv_i x1), (2, iv_i x2)]) C d_X12_oneOrTwo_43 rfl (by decide) rfl ?_
          refine V_lv [1, 2, 3, 0] rfl (t_X12_oneOrTwo_44 C hR z3.1 x0 x1 x2 o_x1 o_x2 FU_ (-1) (okc rfl) h)
        · skip
          refine V_iconst C d_X12_oneOrTwo_40 ?_
          exact V_iret_w C hR d_X12_oneOrTwo_41 (okc rfl) h
set_option maxHeartbeats 4000000 in
set_option maxRecDepth 100000 in
theorem ct_X12_oneOrTwo {l : Launch} {G : GT_g} {M : Mem_m} (x0 : Nat) (x1 : Int) (x2 : Int) (o_x1 : ok_i x1) (o_x2 : ok_i x2) {z : (Mem_m × Int)} (h : f_X12_oneOrTwo G.2.2.2 M x0 x1 x2 = some z) : MI_ l yX12_oneOrTwo K_X12_oneOrTwo (some .int) G M [.ref (G.1 + x0), iv_i x1, iv_i x2] z.1 z.2 :=
  met_of (by decide +kernel) rfl (Nat.le_of_ble_eq_true rfl) (fun X hl C hR => by subst hl; exact t_X12_oneOrTwo C hR x0 x1 x2 o_x1 o_x2 h)
theorem d_X12_note_0 : decode cX12_note 0 = .ok (.iload_n 1, 1) := by decide +kernel
theorem d_X12_note_1 : decode cX12_note 1 = .ok (.invokestatic 75, 3) := by decide +kernel
theorem d_X12_note_4 : decode cX12_note 4 = .ok (.ifCond .eq 15, 3) := by decide +kernel
theorem d_X12_note_7 : decode cX12_note 7 = .ok (.iload_n 2, 1) := by decide +kernel
theorem d_X12_note_8 : decode cX12_note 8 = .ok (.i2l, 1) := by decide +kernel
theorem d_X12_note_9 : decode cX12_note 9 = .ok (.lconst 0, 1) := by decide +kernel
theorem d_X12_note_10 : decode cX12_note 10 = .ok (.ldc2_w 128, 3) := by decide +kernel
theorem d_X12_note_13 : decode cX12_note 13 = .ok (.invokestatic 69, 3) := by decide +kernel
theorem d_X12_note_16 : decode cX12_note 16 = .ok (.ifCond .ne 5, 3) := by decide +kernel
theorem d_X12_note_19 : decode cX12_note 19 = .ok (.iconst (-1), 1) := by decide +kernel
theorem d_X12_note_20 : decode cX12_note 20 = .ok (.ireturn, 1) := by decide +kernel
theorem d_X12_note_21 : decode cX12_note 21 = .ok (.aload_n 0, 1) := by decide +kernel
theorem d_X12_note_22 : decode cX12_note 22 = .ok (.getfield 9, 3) := by decide +kernel
theorem d_X12_note_25 : decode cX12_note 25 = .ok (.sipush 1063, 3) := by decide +kernel
theorem d_X12_note_28 : decode cX12_note 28 = .ok (.iaload, 1) := by decide +kernel
theorem d_X12_note_29 : decode cX12_note 29 = .ok (.bipush 16, 2) := by decide +kernel
theorem d_X12_note_31 : decode cX12_note 31 = .ok (.if_icmp .ne 6, 3) := by decide +kernel
theorem d_X12_note_34 : decode cX12_note 34 = .ok (.bipush (-2), 2) := by decide +kernel
theorem d_X12_note_36 : decode cX12_note 36 = .ok (.ireturn, 1) := by decide +kernel
theorem d_X12_note_37 : decode cX12_note 37 = .ok (.aload_n 0, 1) := by decide +kernel
theorem d_X12_note_38 : decode cX12_note 38 = .ok (.iload_n 1, 1) := by decide +kernel
theorem d_X12_note_39 : decode cX12_note 39 = .ok (.iconst 1, 1) := by decide +kernel
theorem d_X12_note_40 : decode cX12_note 40 = .ok (.iconst 4, 1) := by decide +kernel
theorem d_X12_note_41 : decode cX12_note 41 = .ok (.invokevirtual 89, 3) := by decide +kernel
theorem d_X12_note_44 : decode cX12_note 44 = .ok (.istore_n 3, 1) := by decide +kernel
theorem d_X12_note_45 : decode cX12_note 45 = .ok (.iload_n 3, 1) := by decide +kernel
theorem d_X12_note_46 : decode cX12_note 46 = .ok (.ifCond .eq 5, 3) := by decide +kernel
theorem d_X12_note_49 : decode cX12_note 49 = .ok (.iload_n 3, 1) := by decide +kernel
theorem d_X12_note_50 : decode cX12_note 50 = .ok (.ireturn, 1) := by decide +kernel
theorem d_X12_note_51 : decode cX12_note 51 = .ok (.sipush 600, 3) := by decide +kernel
theorem d_X12_note_54 : decode cX12_note 54 = .ok (.bipush 7, 2) := by decide +kernel
theorem d_X12_note_56 : decode cX12_note 56 = .ok (.aload_n 0, 1) := by decide +kernel
theorem d_X12_note_57 : decode cX12_note 57 = .ok (.getfield 9, 3) := by decide +kernel
theorem d_X12_note_60 : decode cX12_note 60 = .ok (.sipush 1063, 3) := by decide +kernel
theorem d_X12_note_63 : decode cX12_note 63 = .ok (.iaload, 1) := by decide +kernel
theorem d_X12_note_64 : decode cX12_note 64 = .ok (.imul, 1) := by decide +kernel
theorem d_X12_note_65 : decode cX12_note 65 = .ok (.iadd, 1) := by decide +kernel
theorem d_X12_note_66 : decode cX12_note 66 = .ok (.istore 4, 2) := by decide +kernel
theorem d_X12_note_68 : decode cX12_note 68 = .ok (.aload_n 0, 1) := by decide +kernel
theorem d_X12_note_69 : decode cX12_note 69 = .ok (.getfield 9, 3) := by decide +kernel
theorem d_X12_note_72 : decode cX12_note 72 = .ok (.iload 4, 2) := by decide +kernel
theorem d_X12_note_74 : decode cX12_note 74 = .ok (.iload_n 2, 1) := by decide +kernel
theorem d_X12_note_75 : decode cX12_note 75 = .ok (.iastore, 1) := by decide +kernel
theorem d_X12_note_76 : decode cX12_note 76 = .ok (.aload_n 0, 1) := by decide +kernel
theorem d_X12_note_77 : decode cX12_note 77 = .ok (.getfield 9, 3) := by decide +kernel
theorem d_X12_note_80 : decode cX12_note 80 = .ok (.iload 4, 2) := by decide +kernel
theorem d_X12_note_82 : decode cX12_note 82 = .ok (.iconst 1, 1) := by decide +kernel
theorem d_X12_note_83 : decode cX12_note 83 = .ok (.iadd, 1) := by decide +kernel
theorem d_X12_note_84 : decode cX12_note 84 = .ok (.aload_n 0, 1) := by decide +kernel
theorem d_X12_note_85 : decode cX12_note 85 = .ok (.getfield 22, 3) := by decide +kernel
theorem d_X12_note_88 : decode cX12_note 88 = .ok (.iload_n 1, 1) := by decide +kernel
theorem d_X12_note_89 : decode cX12_note 89 = .ok (.iaload, 1) := by decide +kernel
theorem d_X12_note_90 : decode cX12_note 90 = .ok (.iastore, 1) := by decide +kernel
theorem d_X12_note_91 : decode cX12_note 91 = .ok (.iconst 0, 1) := by decide +kernel
theorem d_X12_note_92 : decode cX12_note 92 = .ok (.istore 5, 2) := by decide +kernel
theorem d_X12_note_94 : decode cX12_note 94 = .ok (.iload 5, 2) := by decide +kernel
theorem d_X12_note_96 : decode cX12_note 96 = .ok (.iconst 4, 1) := by decide +kernel
theorem d_X12_note_97 : decode cX12_note 97 = .ok (.if_icmp .ge 48, 3) := by decide +kernel
theorem d_X12_note_100 : decode cX12_note 100 = .ok (.aload_n 0, 1) := by decide +kernel
theorem d_X12_note_101 : decode cX12_note 101 = .ok (.getfield 9, 3) := by decide +kernel
theorem d_X12_note_104 : decode cX12_note 104 = .ok (.iload 4, 2) := by decide +kernel
theorem d_X12_note_106 : decode cX12_note 106 = .ok (.iconst 2, 1) := by decide +kernel
theorem d_X12_note_107 : decode cX12_note 107 = .ok (.iadd, 1) := by decide +kernel
theorem d_X12_note_108 : decode cX12_note 108 = .ok (.iload 5, 2) := by decide +kernel
theorem d_X12_note_110 : decode cX12_note 110 = .ok (.iadd, 1) := by decide +kernel
theorem d_X12_note_111 : decode cX12_note 111 = .ok (.iload 5, 2) := by decide +kernel
theorem d_X12_note_113 : decode cX12_note 113 = .ok (.aload_n 0, 1) := by decide +kernel
theorem d_X12_note_114 : decode cX12_note 114 = .ok (.getfield 22, 3) := by decide +kernel
theorem d_X12_note_117 : decode cX12_note 117 = .ok (.iload_n 1, 1) := by decide +kernel
theorem d_X12_note_118 : decode cX12_note 118 = .ok (.iaload, 1) := by decide +kernel
theorem d_X12_note_119 : decode cX12_note 119 = .ok (.if_icmp .ge 18, 3) := by decide +kernel
theorem d_X12_note_122 : decode cX12_note 122 = .ok (.aload_n 0, 1) := by decide +kernel
theorem d_X12_note_123 : decode cX12_note 123 = .ok (.getfield 25, 3) := by decide +kernel
theorem d_X12_note_126 : decode cX12_note 126 = .ok (.bipush 80, 2) := by decide +kernel
theorem d_X12_note_128 : decode cX12_note 128 = .ok (.iload_n 1, 1) := by decide +kernel
theorem d_X12_note_129 : decode cX12_note 129 = .ok (.imul, 1) := by decide +kernel
theorem d_X12_note_130 : decode cX12_note 130 = .ok (.iload 5, 2) := by decide +kernel
theorem d_X12_note_132 : decode cX12_note 132 = .ok (.iadd, 1) := by decide +kernel
theorem d_X12_note_133 : decode cX12_note 133 = .ok (.iaload, 1) := by decide +kernel
theorem d_X12_note_134 : decode cX12_note 134 = .ok (.goto 4, 3) := by decide +kernel
theorem d_X12_note_137 : decode cX12_note 137 = .ok (.iconst 0, 1) := by decide +kernel
theorem d_X12_note_138 : decode cX12_note 138 = .ok (.iastore, 1) := by decide +kernel
theorem d_X12_note_139 : decode cX12_note 139 = .ok (.iinc 5 1, 3) := by decide +kernel
theorem d_X12_note_142 : decode cX12_note 142 = .ok (.goto (-48), 3) := by decide +kernel
theorem d_X12_note_145 : decode cX12_note 145 = .ok (.aload_n 0, 1) := by decide +kernel
theorem d_X12_note_146 : decode cX12_note 146 = .ok (.getfield 9, 3) := by decide +kernel
theorem d_X12_note_149 : decode cX12_note 149 = .ok (.iload 4, 2) := by decide +kernel
theorem d_X12_note_151 : decode cX12_note 151 = .ok (.bipush 6, 2) := by decide +kernel
theorem d_X12_note_153 : decode cX12_note 153 = .ok (.iadd, 1) := by decide +kernel
theorem d_X12_note_154 : decode cX12_note 154 = .ok (.iconst 1, 1) := by decide +kernel
theorem d_X12_note_155 : decode cX12_note 155 = .ok (.iastore, 1) := by decide +kernel
theorem d_X12_note_156 : decode cX12_note 156 = .ok (.aload_n 0, 1) := by decide +kernel
theorem d_X12_note_157 : decode cX12_note 157 = .ok (.getfield 9, 3) := by decide +kernel
theorem d_X12_note_160 : decode cX12_note 160 = .ok (.sipush 1063, 3) := by decide +kernel
theorem d_X12_note_163 : decode cX12_note 163 = .ok (.dup2, 1) := by decide +kernel
theorem d_X12_note_164 : decode cX12_note 164 = .ok (.iaload, 1) := by decide +kernel
theorem d_X12_note_165 : decode cX12_note 165 = .ok (.iconst 1, 1) := by decide +kernel
theorem d_X12_note_166 : decode cX12_note 166 = .ok (.iadd, 1) := by decide +kernel
theorem d_X12_note_167 : decode cX12_note 167 = .ok (.iastore, 1) := by decide +kernel
theorem d_X12_note_168 : decode cX12_note 168 = .ok (.aload_n 0, 1) := by decide +kernel
theorem d_X12_note_169 : decode cX12_note 169 = .ok (.getfield 9, 3) := by decide +kernel
theorem d_X12_note_172 : decode cX12_note 172 = .ok (.sipush 1063, 3) := by decide +kernel
theorem d_X12_note_175 : decode cX12_note 175 = .ok (.iaload, 1) := by decide +kernel
theorem d_X12_note_176 : decode cX12_note 176 = .ok (.iconst 1, 1) := by decide +kernel
theorem d_X12_note_177 : decode cX12_note 177 = .ok (.isub, 1) := by decide +kernel
theorem d_X12_note_178 : decode cX12_note 178 = .ok (.ireturn, 1) := by decide +kernel
set_option maxHeartbeats 4000000 in
set_option maxRecDepth 100000 in
theorem t_X12_note_94 {X : XT_x} {G : GT_g} {z : (Mem_m × Int)} (C : Cx_ (K_X12_note) X G) (hR : Rx_ X G (some .int)) (x0 : Nat) (x1 : Int) (x4 : Int) (o_x1 : ok_i x1) (o_x4 : ok_i x4) : ∀ (n : Nat) (M : Mem_m) (x5 : Int) (o_x5 : ok_i x5), f_X12_note_94 G.2.2.2 x0 x1 x4 n M x5 = some z → V_ (K_X12_note) X G (Fq_ X G (Qi_ G z.1 z.2)) M 94 [(0, .ref (G.1 + x0)), (1, iv_i x1), (4, iv_i x4), (5, iv_i x5)] [] := by
  intro n
  induction n with
  | zero => intro M x5 o_x5 h; exact absurd h (by simp [f_X12_note_94])
  | succ n ih =>
    intro M x5 o_x5 h
    unfold f_X12_note_94 at h
    refine V_iload (j := 3) C d_X12_note_94 rfl ?_
    refine V_iconst C d_X12_note_96 ?_
    refine V_icmp_ge (tgt := 145) C d_X12_note_97 (by decide) o_x5 (okc rfl) h (fun h => ?_) (fun h => ?_)
    · skip
      refine V_aload_n (j := 0) C d_X12_note_100 rfl rfl ?_
      refine V_getR C ck_12 fw_X12_9 d_X12_note_101 h (fun v1 h => ?_)
      refine V_iload (j := 2) C d_X12_note_104 rfl ?_
      refine V_iconst C d_X12_note_106 ?_
      refine V_iadd C d_X12_note_107 ?_
      refine V_iload (j := 3) C d_X12_note_108 rfl ?_
      refine V_iadd C d_X12_note_110 ?_
      refine V_iload (j := 3) C d_X12_note_111 rfl ?_
      refine V_aload_n (j := 0) C d_X12_note_113 rfl rfl ?_
      refine V_getR C ck_12 fw_X12_22 d_X12_note_114 h (fun v2 h => ?_)
      refine V_iload_n (j := 1) C d_X12_note_117 rfl rfl ?_
      refine V_iald C d_X12_note_118 o_x1 h (fun v3 o3 h => ?_)
      refine V_icmp_ge (tgt := 137) C d_X12_note_119 (by decide) o_x5 o3 h (fun h => ?_) (fun h => ?_)
      · skip
        refine V_aload_n (j := 0) C d_X12_note_122 rfl rfl ?_
        refine V_getR C ck_12 fw_X12_25 d_X12_note_123 h (fun v4 h => ?_)
        refine V_bipush (v := 80) C d_X12_note_126 rfl ?_
        refine V_iload_n (j := 1) C d_X12_note_128 rfl rfl ?_
        refine V_imul C d_X12_note_129 ?_
        refine V_iload (j := 3) C d_X12_note_130 rfl ?_
        refine V_iadd C d_X12_note_132 ?_
        refine V_iald C d_X12_note_133 (ok_wr _) h (fun v5 o5 h => ?_)
        refine V_goto (tgt := 138) C d_X12_note_134 (by decide) ?_
        refine V_iast C d_X12_note_138 (ok_wr _) o5 h (fun M6 h => ?_)
        refine V_iinc (j := 3) (lv' := [(5, iv_i (wr_i (x5 + 1))), (0, .ref (G.1 + x0)), (1, iv_i x1), (4, iv_i x4)]) C d_X12_note_139 rfl (by decide) rfl ?_
        refine V_goto (tgt := 94) C d_X12_note_142 (by decide) ?_
        refine V_lv [1, 2, 3, 0] rfl (ih M6 (wr_i (x5 + 1)) (ok_wr _) h)
      · skip
        refine V_iconst C d_X12_note_137 ?_
        refine V_iast C d_X12_note_138 (ok_wr _) (okc rfl) h (fun M7 h => ?_)
        refine V_iinc (j := 3) (lv' := [(5, iv_i (wr_i (x5 + 1))), (0, .ref (G.1 + x0)), (1, iv_i x1), (4, iv_i x4)]) C d_X12_note_139 rfl (by decide) rfl ?_
        refine V_goto (tgt := 94) C d_X12_note_142 (by decide) ?_
        refine V_lv [1, 2, 3, 0] rfl (ih M7 (wr_i (x5 + 1)) (ok_wr _) h)
    · skip
      refine V_aload_n (j := 0) C d_X12_note_145 rfl rfl ?_
      refine V_getR C ck_12 fw_X12_9 d_X12_note_146 h (fun v8 h => ?_)
      refine V_iload (j := 2) C d_X12_note_149 rfl ?_
      refine V_bipush (v := 6) C d_X12_note_151 rfl ?_
      refine V_iadd C d_X12_note_153 ?_
      refine V_iconst C d_X12_note_154 ?_
      refine V_iast C d_X12_note_155 (ok_wr _) (okc rfl) h (fun M9 h => ?_)
      refine V_aload_n (j := 0) C d_X12_note_156 rfl rfl ?_
      refine V_getR C ck_12 fw_X12_9 d_X12_note_157 h (fun v10 h => ?_)
      refine V_sipush (v := 1063) C d_X12_note_160 rfl ?_
      refine V_dup2 C d_X12_note_163 rfl rfl ?_
      refine V_iald C d_X12_note_164 (okc rfl) h (fun v11 o11 h => ?_)
      refine V_iconst C d_X12_note_165 ?_
      refine V_iadd C d_X12_note_166 ?_
      refine V_iast C d_X12_note_167 (okc rfl) (ok_wr _) h (fun M12 h => ?_)
      refine V_aload_n (j := 0) C d_X12_note_168 rfl rfl ?_
      refine V_getR C ck_12 fw_X12_9 d_X12_note_169 h (fun v13 h => ?_)
      refine V_sipush (v := 1063) C d_X12_note_172 rfl ?_
      refine V_iald C d_X12_note_175 (okc rfl) h (fun v14 o14 h => ?_)
      refine V_iconst C d_X12_note_176 ?_
      refine V_isub C d_X12_note_177 ?_
      exact V_iret_w C hR d_X12_note_178 (ok_wr _) h
set_option maxHeartbeats 4000000 in
set_option maxRecDepth 100000 in
theorem t_X12_note {X : XT_x} {G : GT_g} {M : Mem_m} {z : (Mem_m × Int)} (C : Cx_ (K_X12_note) X G) (hR : Rx_ X G (some .int)) (x0 : Nat) (x1 : Int) (x2 : Int) (o_x1 : ok_i x1) (o_x2 : ok_i x2) (h : f_X12_note G.2.2.2 M x0 x1 x2 = some z) : V_ (K_X12_note) X G (Fq_ X G (Qi_ G z.1 z.2)) M 0 [(0, .ref (G.1 + x0)), (1, iv_i x1), (2, iv_i x2)] [] := by
  unfold f_X12_note at h
  refine V_iload_n (j := 1) C d_X12_note_0 rfl rfl ?_
  refine V_callSri (K' := K_X12_isShelf) (av := [iv_i x1]) (rest := []) ys_X12_isShelf C (yk_X12_isShelf) l1_X12_75 (by decide) d_X12_note_1 (fun v hv => ct_X12_isShelf x1 o_x1 hv) rfl rfl (Nat.le_of_ble_eq_true rfl) h (fun v1 o1 h => ?_)
  refine V_if_eq (tgt := 19) C d_X12_note_4 (by decide) o1 h (fun h => ?_) (fun h => ?_)
  · skip
    refine V_iconst C d_X12_note_19 ?_
    exact V_iret_w C hR d_X12_note_20 (okc rfl) h
  · skip
    refine V_iload_n (j := 2) C d_X12_note_7 rfl rfl ?_
    refine V_i2l C d_X12_note_8 o_x2 ?_
    refine V_lconst0 C d_X12_note_9 ?_
    refine V_ldc2 (v := 4) C d_X12_note_10 cl_X12_128 ?_
    refine V_callSri (K' := K_X12_isIn) (av := [jv_i x2, jv_i 0, jv_i 4]) (rest := []) ys_X12_isIn C (yk_X12_isIn) l1_X12_69 (by decide) d_X12_note_13 (fun v hv => ct_X12_isIn x2 0 4 o_x2 (okc rfl) (okc rfl) hv) rfl rfl (Nat.le_of_ble_eq_true rfl) h (fun v2 o2 h => ?_)
    refine V_if_ne (tgt := 21) C d_X12_note_16 (by decide) o2 h (fun h => ?_) (fun h => ?_)
    · skip
      refine V_iconst C d_X12_note_19 ?_
      exact V_iret_w C hR d_X12_note_20 (okc rfl) h
    · skip
      refine V_aload_n (j := 0) C d_X12_note_21 rfl rfl ?_
      refine V_getR C ck_12 fw_X12_9 d_X12_note_22 h (fun v3 h => ?_)
      refine V_sipush (v := 1063) C d_X12_note_25 rfl ?_
      refine V_iald C d_X12_note_28 (okc rfl) h (fun v4 o4 h => ?_)
      refine V_bipush (v := 16) C d_X12_note_29 rfl ?_
      refine V_icmp_ne (tgt := 37) C d_X12_note_31 (by decide) o4 (okc rfl) h (fun h => ?_) (fun h => ?_)
      · skip
        refine V_bipush (v := (-2)) C d_X12_note_34 rfl ?_
        exact V_iret_w C hR d_X12_note_36 (okc rfl) h
      · skip
        refine V_aload_n (j := 0) C d_X12_note_37 rfl rfl ?_
        refine V_iload_n (j := 1) C d_X12_note_38 rfl rfl ?_
        refine V_iconst C d_X12_note_39 ?_
        refine V_iconst C d_X12_note_40 ?_
        refine V_callVri (K' := K_X12_wrongSounds) (a := x0) (ci := 12) (av := [iv_i x1, iv_i 1, iv_i 4]) (rest := []) yi_X12_wrongSounds (by decide) rfl C (yk_X12_wrongSounds) l1_X12_89 (by decide) d_X12_note_41 (fun v hv => ct_X12_wrongSounds x0 x1 1 4 o_x1 (okc rfl) (okc rfl) hv) rfl rfl (Nat.le_of_ble_eq_true rfl) h (fun v5 o5 h => ?_)
        refine V_istore_n (lv' := [(3, iv_i v5), (0, .ref (G.1 + x0)), (1, iv_i x1), (2, iv_i x2)]) C d_X12_note_44 rfl (by decide) rfl ?_
        refine V_iload_n (j := 0) C d_X12_note_45 rfl rfl ?_
        refine V_if_eq (tgt := 51) C d_X12_note_46 (by decide) o5 h (fun h => ?_) (fun h => ?_)
        · skip
          refine V_sipush (v := 600) C d_X12_note_51 rfl ?_
          refine V_bipush (v := 7) C d_X12_note_54 rfl ?_
          refine V_aload_n (j := 1) C d_X12_note_56 rfl rfl ?_
          refine V_getR C ck_12 fw_X12_9 d_X12_note_57 h (fun v6 h => ?_)
          refine V_sipush (v := 1063) C d_X12_note_60 rfl ?_
          refine V_iald C d_X12_note_63 (okc rfl) h (fun v7 o7 h => ?_)
          refine V_imul C d_X12_note_64 ?_
          refine V_iadd C d_X12_note_65 ?_
          refine V_istore (lv' := [(4, iv_i (wr_i (600 + (wr_i (7 * v7))))), (3, iv_i v5), (0, .ref (G.1 + x0)), (1, iv_i x1), (2, iv_i x2)]) C d_X12_note_66 (by decide) rfl ?_
          refine V_aload_n (j := 2) C d_X12_note_68 rfl rfl ?_
          refine V_getR C ck_12 fw_X12_9 d_X12_note_69 h (fun v8 h => ?_)
          refine V_iload (j := 0) C d_X12_note_72 rfl ?_
          refine V_iload_n (j := 4) C d_X12_note_74 rfl rfl ?_
          refine V_iast C d_X12_note_75 (ok_wr _) o_x2 h (fun M9 h => ?_)
          refine V_aload_n (j := 2) C d_X12_note_76 rfl rfl ?_
          refine V_getR C ck_12 fw_X12_9 d_X12_note_77 h (fun v10 h => ?_)
          refine V_iload (j := 0) C d_X12_note_80 rfl ?_
          refine V_iconst C d_X12_note_82 ?_
          refine V_iadd C d_X12_note_83 ?_
          refine V_aload_n (j := 2) C d_X12_note_84 rfl rfl ?_
          refine V_getR C ck_12 fw_X12_22 d_X12_note_85 h (fun v11 h => ?_)
          refine V_iload_n (j := 3) C d_X12_note_88 rfl rfl ?_
          refine V_iald C d_X12_note_89 o_x1 h (fun v12 o12 h => ?_)
          refine V_iast C d_X12_note_90 (ok_wr _) o12 h (fun M13 h => ?_)
          refine V_iconst C d_X12_note_91 ?_
          refine V_istore (lv' := [(5, iv_i 0), (4, iv_i (wr_i (600 + (wr_i (7 * v7))))), (3, iv_i v5), (0, .ref (G.1 + x0)), (1, iv_i x1), (2, iv_i x2)]) C d_X12_note_92 (by decide) rfl ?_
          refine V_lv [3, 4, 1, 0] rfl (t_X12_note_94 C hR x0 x1 (wr_i (600 + (wr_i (7 * v7)))) o_x1 (ok_wr _) FU_ M13 0 (okc rfl) h)
        · skip
          refine V_iload_n (j := 0) C d_X12_note_49 rfl rfl ?_
          exact V_iret_w C hR d_X12_note_50 o5 h
set_option maxHeartbeats 4000000 in
set_option maxRecDepth 100000 in
theorem ct_X12_note {l : Launch} {G : GT_g} {M : Mem_m} (x0 : Nat) (x1 : Int) (x2 : Int) (o_x1 : ok_i x1) (o_x2 : ok_i x2) {z : (Mem_m × Int)} (h : f_X12_note G.2.2.2 M x0 x1 x2 = some z) : MI_ l yX12_note K_X12_note (some .int) G M [.ref (G.1 + x0), iv_i x1, iv_i x2] z.1 z.2 :=
  met_of (by decide +kernel) rfl (Nat.le_of_ble_eq_true rfl) (fun X hl C hR => by subst hl; exact t_X12_note C hR x0 x1 x2 o_x1 o_x2 h)
theorem d_X12_use_0 : decode cX12_use 0 = .ok (.aload_n 0, 1) := by decide +kernel
theorem d_X12_use_1 : decode cX12_use 1 = .ok (.iload_n 1, 1) := by decide +kernel
theorem d_X12_use_2 : decode cX12_use 2 = .ok (.invokevirtual 130, 3) := by decide +kernel
theorem d_X12_use_5 : decode cX12_use 5 = .ok (.ifCond .ne 5, 3) := by decide +kernel
theorem d_X12_use_8 : decode cX12_use 8 = .ok (.iconst (-1), 1) := by decide +kernel
theorem d_X12_use_9 : decode cX12_use 9 = .ok (.ireturn, 1) := by decide +kernel
theorem d_X12_use_10 : decode cX12_use 10 = .ok (.aload_n 0, 1) := by decide +kernel
theorem d_X12_use_11 : decode cX12_use 11 = .ok (.sipush 600, 3) := by decide +kernel
theorem d_X12_use_14 : decode cX12_use 14 = .ok (.bipush 7, 2) := by decide +kernel
theorem d_X12_use_16 : decode cX12_use 16 = .ok (.iload_n 1, 1) := by decide +kernel
theorem d_X12_use_17 : decode cX12_use 17 = .ok (.imul, 1) := by decide +kernel
theorem d_X12_use_18 : decode cX12_use 18 = .ok (.iadd, 1) := by decide +kernel
theorem d_X12_use_19 : decode cX12_use 19 = .ok (.bipush 6, 2) := by decide +kernel
theorem d_X12_use_21 : decode cX12_use 21 = .ok (.iadd, 1) := by decide +kernel
theorem d_X12_use_22 : decode cX12_use 22 = .ok (.iload_n 2, 1) := by decide +kernel
theorem d_X12_use_23 : decode cX12_use 23 = .ok (.ifCond .eq 7, 3) := by decide +kernel
theorem d_X12_use_26 : decode cX12_use 26 = .ok (.iconst 1, 1) := by decide +kernel
theorem d_X12_use_27 : decode cX12_use 27 = .ok (.goto 4, 3) := by decide +kernel
theorem d_X12_use_30 : decode cX12_use 30 = .ok (.iconst 0, 1) := by decide +kernel
theorem d_X12_use_31 : decode cX12_use 31 = .ok (.invokevirtual 103, 3) := by decide +kernel
theorem d_X12_use_34 : decode cX12_use 34 = .ok (.istore_n 3, 1) := by decide +kernel
theorem d_X12_use_35 : decode cX12_use 35 = .ok (.iload_n 3, 1) := by decide +kernel
theorem d_X12_use_36 : decode cX12_use 36 = .ok (.iload_n 2, 1) := by decide +kernel
theorem d_X12_use_37 : decode cX12_use 37 = .ok (.ifCond .eq 7, 3) := by decide +kernel
theorem d_X12_use_40 : decode cX12_use 40 = .ok (.iconst 1, 1) := by decide +kernel
theorem d_X12_use_41 : decode cX12_use 41 = .ok (.goto 4, 3) := by decide +kernel
theorem d_X12_use_44 : decode cX12_use 44 = .ok (.iconst 0, 1) := by decide +kernel
theorem d_X12_use_45 : decode cX12_use 45 = .ok (.if_icmp .ne 7, 3) := by decide +kernel
theorem d_X12_use_48 : decode cX12_use 48 = .ok (.iconst 0, 1) := by decide +kernel
theorem d_X12_use_49 : decode cX12_use 49 = .ok (.goto 4, 3) := by decide +kernel
theorem d_X12_use_52 : decode cX12_use 52 = .ok (.iconst 1, 1) := by decide +kernel
theorem d_X12_use_53 : decode cX12_use 53 = .ok (.ireturn, 1) := by decide +kernel
set_option maxHeartbeats 4000000 in
set_option maxRecDepth 100000 in
theorem t_X12_use_45 {X : XT_x} {G : GT_g} {z : (Mem_m × Int)} (C : Cx_ (K_X12_use) X G) (hR : Rx_ X G (some .int)) (M : Mem_m) (s0 : Int) (s1 : Int) (o_s0 : ok_i s0) (o_s1 : ok_i s1) (h : f_X12_use_45 G.2.2.2 M s0 s1 = some z) : V_ (K_X12_use) X G (Fq_ X G (Qi_ G z.1 z.2)) M 45 [] [iv_i s0, iv_i s1] := by
  unfold f_X12_use_45 at h
  refine V_icmp_ne (tgt := 52) C d_X12_use_45 (by decide) o_s1 o_s0 h (fun h => ?_) (fun h => ?_)
  · skip
    refine V_iconst C d_X12_use_48 ?_
    refine V_goto (tgt := 53) C d_X12_use_49 (by decide) ?_
    exact V_iret_w C hR d_X12_use_53 (okc rfl) h
  · skip
    refine V_iconst C d_X12_use_52 ?_
    exact V_iret_w C hR d_X12_use_53 (okc rfl) h
set_option maxHeartbeats 4000000 in
set_option maxRecDepth 100000 in
theorem t_X12_use_31 {X : XT_x} {G : GT_g} {z : (Mem_m × Int)} (C : Cx_ (K_X12_use) X G) (hR : Rx_ X G (some .int)) (M : Mem_m) (x2 : Int) (s0 : Int) (s1 : Int) (s2 : Nat) (o_x2 : ok_i x2) (o_s0 : ok_i s0) (o_s1 : ok_i s1) (h : f_X12_use_31 G.2.2.2 M x2 s0 s1 s2 = some z) : V_ (K_X12_use) X G (Fq_ X G (Qi_ G z.1 z.2)) M 31 [(2, iv_i x2)] [iv_i s0, iv_i s1, .ref (G.1 + s2)] := by
  unfold f_X12_use_31 at h
  refine V_callVwi (K' := K_X12_becomes) (a := s2) (ci := 12) (av := [iv_i s1, iv_i s0]) (rest := []) yi_X12_becomes (by decide) rfl C (yk_X12_becomes) l1_X12_103 (by decide) d_X12_use_31 (fun v hv => ct_X12_becomes s2 s1 s0 o_s1 o_s0 hv) rfl rfl (Nat.le_of_ble_eq_true rfl) h (fun z1 o1 h => ?_)
  refine V_istore_n (lv' := [(3, iv_i z1.2), (2, iv_i x2)]) C d_X12_use_34 rfl (by decide) rfl ?_
  refine V_iload_n (j := 0) C d_X12_use_35 rfl rfl ?_
  refine V_iload_n (j := 1) C d_X12_use_36 rfl rfl ?_
  refine V_if_eq (tgt := 44) C d_X12_use_37 (by decide) o_x2 h (fun h => ?_) (fun h => ?_)
  · skip
    refine V_iconst C d_X12_use_44 ?_
    refine V_lv [] rfl (t_X12_use_45 C hR z1.1 0 z1.2 (okc rfl) o1 h)
  · skip
    refine V_iconst C d_X12_use_40 ?_
    refine V_goto (tgt := 45) C d_X12_use_41 (by decide) ?_
    refine V_lv [] rfl (t_X12_use_45 C hR z1.1 1 z1.2 (okc rfl) o1 h)
set_option maxHeartbeats 4000000 in
set_option maxRecDepth 100000 in
theorem t_X12_use {X : XT_x} {G : GT_g} {M : Mem_m} {z : (Mem_m × Int)} (C : Cx_ (K_X12_use) X G) (hR : Rx_ X G (some .int)) (x0 : Nat) (x1 : Int) (x2 : Int) (o_x1 : ok_i x1) (o_x2 : ok_i x2) (h : f_X12_use G.2.2.2 M x0 x1 x2 = some z) : V_ (K_X12_use) X G (Fq_ X G (Qi_ G z.1 z.2)) M 0 [(0, .ref (G.1 + x0)), (1, iv_i x1), (2, iv_i x2)] [] := by
  unfold f_X12_use at h
  refine V_aload_n (j := 0) C d_X12_use_0 rfl rfl ?_
  refine V_iload_n (j := 1) C d_X12_use_1 rfl rfl ?_
  refine V_callVri (K' := K_X12_isNote) (a := x0) (ci := 12) (av := [iv_i x1]) (rest := []) yi_X12_isNote (by decide) rfl C (yk_X12_isNote) l1_X12_130 (by decide) d_X12_use_2 (fun v hv => ct_X12_isNote x0 x1 o_x1 hv) rfl rfl (Nat.le_of_ble_eq_true rfl) h (fun v1 o1 h => ?_)
  refine V_if_ne (tgt := 10) C d_X12_use_5 (by decide) o1 h (fun h => ?_) (fun h => ?_)
  · skip
    refine V_iconst C d_X12_use_8 ?_
    exact V_iret_w C hR d_X12_use_9 (okc rfl) h
  · skip
    refine V_aload_n (j := 0) C d_X12_use_10 rfl rfl ?_
    refine V_sipush (v := 600) C d_X12_use_11 rfl ?_
    refine V_bipush (v := 7) C d_X12_use_14 rfl ?_
    refine V_iload_n (j := 1) C d_X12_use_16 rfl rfl ?_
    refine V_imul C d_X12_use_17 ?_
    refine V_iadd C d_X12_use_18 ?_
    refine V_bipush (v := 6) C d_X12_use_19 rfl ?_
    refine V_iadd C d_X12_use_21 ?_
    refine V_iload_n (j := 2) C d_X12_use_22 rfl rfl ?_
    refine V_if_eq (tgt := 30) C d_X12_use_23 (by decide) o_x2 h (fun h => ?_) (fun h => ?_)
    · skip
      refine V_iconst C d_X12_use_30 ?_
      refine V_lv [2] rfl (t_X12_use_31 C hR M x2 0 (wr_i ((wr_i (600 + (wr_i (7 * x1)))) + 6)) x0 o_x2 (okc rfl) (ok_wr _) h)
    · skip
      refine V_iconst C d_X12_use_26 ?_
      refine V_goto (tgt := 31) C d_X12_use_27 (by decide) ?_
      refine V_lv [2] rfl (t_X12_use_31 C hR M x2 1 (wr_i ((wr_i (600 + (wr_i (7 * x1)))) + 6)) x0 o_x2 (okc rfl) (ok_wr _) h)
set_option maxHeartbeats 4000000 in
set_option maxRecDepth 100000 in
theorem ct_X12_use {l : Launch} {G : GT_g} {M : Mem_m} (x0 : Nat) (x1 : Int) (x2 : Int) (o_x1 : ok_i x1) (o_x2 : ok_i x2) {z : (Mem_m × Int)} (h : f_X12_use G.2.2.2 M x0 x1 x2 = some z) : MI_ l yX12_use K_X12_use (some .int) G M [.ref (G.1 + x0), iv_i x1, iv_i x2] z.1 z.2 :=
  met_of (by decide +kernel) rfl (Nat.le_of_ble_eq_true rfl) (fun X hl C hR => by subst hl; exact t_X12_use C hR x0 x1 x2 o_x1 o_x2 h)
theorem d_X12_lengthOf_0 : decode cX12_lengthOf 0 = .ok (.aload_n 0, 1) := by decide +kernel
theorem d_X12_lengthOf_1 : decode cX12_lengthOf 1 = .ok (.iload_n 1, 1) := by decide +kernel
theorem d_X12_lengthOf_2 : decode cX12_lengthOf 2 = .ok (.iconst 1, 1) := by decide +kernel
theorem d_X12_lengthOf_3 : decode cX12_lengthOf 3 = .ok (.invokevirtual 133, 3) := by decide +kernel
theorem d_X12_lengthOf_6 : decode cX12_lengthOf 6 = .ok (.iconst 1, 1) := by decide +kernel
theorem d_X12_lengthOf_7 : decode cX12_lengthOf 7 = .ok (.iadd, 1) := by decide +kernel
theorem d_X12_lengthOf_8 : decode cX12_lengthOf 8 = .ok (.istore_n 2, 1) := by decide +kernel
theorem d_X12_lengthOf_9 : decode cX12_lengthOf 9 = .ok (.aload_n 0, 1) := by decide +kernel
theorem d_X12_lengthOf_10 : decode cX12_lengthOf 10 = .ok (.iload_n 1, 1) := by decide +kernel
theorem d_X12_lengthOf_11 : decode cX12_lengthOf 11 = .ok (.iconst 0, 1) := by decide +kernel
theorem d_X12_lengthOf_12 : decode cX12_lengthOf 12 = .ok (.invokevirtual 133, 3) := by decide +kernel
theorem d_X12_lengthOf_15 : decode cX12_lengthOf 15 = .ok (.tableswitch 43 1 4 #[29, 43, 33, 39], 29) := by decide +kernel
theorem d_X12_lengthOf_44 : decode cX12_lengthOf 44 = .ok (.iload_n 2, 1) := by decide +kernel
theorem d_X12_lengthOf_45 : decode cX12_lengthOf 45 = .ok (.iconst 2, 1) := by decide +kernel
theorem d_X12_lengthOf_46 : decode cX12_lengthOf 46 = .ok (.iadd, 1) := by decide +kernel
theorem d_X12_lengthOf_47 : decode cX12_lengthOf 47 = .ok (.ireturn, 1) := by decide +kernel
theorem d_X12_lengthOf_48 : decode cX12_lengthOf 48 = .ok (.iconst 2, 1) := by decide +kernel
theorem d_X12_lengthOf_49 : decode cX12_lengthOf 49 = .ok (.iload_n 2, 1) := by decide +kernel
theorem d_X12_lengthOf_50 : decode cX12_lengthOf 50 = .ok (.imul, 1) := by decide +kernel
theorem d_X12_lengthOf_51 : decode cX12_lengthOf 51 = .ok (.iconst 1, 1) := by decide +kernel
theorem d_X12_lengthOf_52 : decode cX12_lengthOf 52 = .ok (.isub, 1) := by decide +kernel
theorem d_X12_lengthOf_53 : decode cX12_lengthOf 53 = .ok (.ireturn, 1) := by decide +kernel
theorem d_X12_lengthOf_54 : decode cX12_lengthOf 54 = .ok (.iload_n 2, 1) := by decide +kernel
theorem d_X12_lengthOf_55 : decode cX12_lengthOf 55 = .ok (.iconst 5, 1) := by decide +kernel
theorem d_X12_lengthOf_56 : decode cX12_lengthOf 56 = .ok (.iadd, 1) := by decide +kernel
theorem d_X12_lengthOf_57 : decode cX12_lengthOf 57 = .ok (.ireturn, 1) := by decide +kernel
theorem d_X12_lengthOf_58 : decode cX12_lengthOf 58 = .ok (.iload_n 2, 1) := by decide +kernel
theorem d_X12_lengthOf_59 : decode cX12_lengthOf 59 = .ok (.ireturn, 1) := by decide +kernel
set_option maxHeartbeats 4000000 in
set_option maxRecDepth 100000 in
theorem t_X12_lengthOf {X : XT_x} {G : GT_g} {M : Mem_m} {z : Int} (C : Cx_ (K_X12_lengthOf) X G) (hR : Rx_ X G (some .int)) (x0 : Nat) (x1 : Int) (o_x1 : ok_i x1) (h : f_X12_lengthOf G.2.2.2 M x0 x1 = some z) : V_ (K_X12_lengthOf) X G (Fq_ X G (Qi_ G M z)) M 0 [(0, .ref (G.1 + x0)), (1, iv_i x1)] [] := by
  unfold f_X12_lengthOf at h
  refine V_aload_n (j := 0) C d_X12_lengthOf_0 rfl rfl ?_
  refine V_iload_n (j := 1) C d_X12_lengthOf_1 rfl rfl ?_
  refine V_iconst C d_X12_lengthOf_2 ?_
  refine V_callVri (K' := K_X12_noteOf) (a := x0) (ci := 12) (av := [iv_i x1, iv_i 1]) (rest := []) yi_X12_noteOf (by decide) rfl C (yk_X12_noteOf) l1_X12_133 (by decide) d_X12_lengthOf_3 (fun v hv => ct_X12_noteOf x0 x1 1 o_x1 (okc rfl) hv) rfl rfl (Nat.le_of_ble_eq_true rfl) h (fun v1 o1 h => ?_)
  refine V_iconst C d_X12_lengthOf_6 ?_
  refine V_iadd C d_X12_lengthOf_7 ?_
  refine V_istore_n (lv' := [(2, iv_i (wr_i (v1 + 1))), (0, .ref (G.1 + x0)), (1, iv_i x1)]) C d_X12_lengthOf_8 rfl (by decide) rfl ?_
  refine V_aload_n (j := 1) C d_X12_lengthOf_9 rfl rfl ?_
  refine V_iload_n (j := 2) C d_X12_lengthOf_10 rfl rfl ?_
  refine V_iconst C d_X12_lengthOf_11 ?_
  refine V_callVri (K' := K_X12_noteOf) (a := x0) (ci := 12) (av := [iv_i x1, iv_i 0]) (rest := []) yi_X12_noteOf (by decide) rfl C (yk_X12_noteOf) l1_X12_133 (by decide) d_X12_lengthOf_12 (fun v hv => ct_X12_noteOf x0 x1 0 o_x1 (okc rfl) hv) rfl rfl (Nat.le_of_ble_eq_true rfl) h (fun v2 o2 h => ?_)
  refine V_eqs h (fun e3 h => ?_) (fun e3 h => ?_)
  · skip
    refine V_tabIn (tgt := 44) C d_X12_lengthOf_15 o2 (by omega) (by omega) (by rw [e3]; rfl) (by decide) ?_
    refine V_iload_n (j := 0) C d_X12_lengthOf_44 rfl rfl ?_
    refine V_iconst C d_X12_lengthOf_45 ?_
    refine V_iadd C d_X12_lengthOf_46 ?_
    exact V_iret_r C hR d_X12_lengthOf_47 (ok_wr _) h
  refine V_eqs h (fun e4 h => ?_) (fun e4 h => ?_)
  · skip
    refine V_tabIn (tgt := 58) C d_X12_lengthOf_15 o2 (by omega) (by omega) (by rw [e4]; rfl) (by decide) ?_
    refine V_iload_n (j := 0) C d_X12_lengthOf_58 rfl rfl ?_
    exact V_iret_r C hR d_X12_lengthOf_59 (ok_wr _) h
  refine V_eqs h (fun e5 h => ?_) (fun e5 h => ?_)
  · skip
    refine V_tabIn (tgt := 48) C d_X12_lengthOf_15 o2 (by omega) (by omega) (by rw [e5]; rfl) (by decide) ?_
    refine V_iconst C d_X12_lengthOf_48 ?_
    refine V_iload_n (j := 0) C d_X12_lengthOf_49 rfl rfl ?_
    refine V_imul C d_X12_lengthOf_50 ?_
    refine V_iconst C d_X12_lengthOf_51 ?_
    refine V_isub C d_X12_lengthOf_52 ?_
    exact V_iret_r C hR d_X12_lengthOf_53 (ok_wr _) h
  refine V_eqs h (fun e6 h => ?_) (fun e6 h => ?_)
  · skip
    refine V_tabIn (tgt := 54) C d_X12_lengthOf_15 o2 (by omega) (by omega) (by rw [e6]; rfl) (by decide) ?_
    refine V_iload_n (j := 0) C d_X12_lengthOf_54 rfl rfl ?_
    refine V_iconst C d_X12_lengthOf_55 ?_
    refine V_iadd C d_X12_lengthOf_56 ?_
    exact V_iret_r C hR d_X12_lengthOf_57 (ok_wr _) h
  refine V_tabOut (tgt := 58) C d_X12_lengthOf_15 o2 (by omega) (by decide) ?_
  refine V_iload_n (j := 0) C d_X12_lengthOf_58 rfl rfl ?_
  exact V_iret_r C hR d_X12_lengthOf_59 (ok_wr _) h
set_option maxHeartbeats 4000000 in
set_option maxRecDepth 100000 in
theorem ct_X12_lengthOf {l : Launch} {G : GT_g} {M : Mem_m} (x0 : Nat) (x1 : Int) (o_x1 : ok_i x1) {z : Int} (h : f_X12_lengthOf G.2.2.2 M x0 x1 = some z) : MI_ l yX12_lengthOf K_X12_lengthOf (some .int) G M [.ref (G.1 + x0), iv_i x1] M z :=
  met_of (by decide +kernel) rfl (Nat.le_of_ble_eq_true rfl) (fun X hl C hR => by subst hl; exact t_X12_lengthOf C hR x0 x1 o_x1 h)
theorem d_X12_wide_0 : decode cX12_wide 0 = .ok (.aload_n 0, 1) := by decide +kernel
theorem d_X12_wide_1 : decode cX12_wide 1 = .ok (.iload_n 1, 1) := by decide +kernel
theorem d_X12_wide_2 : decode cX12_wide 2 = .ok (.iconst 0, 1) := by decide +kernel
theorem d_X12_wide_3 : decode cX12_wide 3 = .ok (.invokevirtual 133, 3) := by decide +kernel
theorem d_X12_wide_6 : decode cX12_wide 6 = .ok (.iconst 3, 1) := by decide +kernel
theorem d_X12_wide_7 : decode cX12_wide 7 = .ok (.if_icmp .ne 14, 3) := by decide +kernel
theorem d_X12_wide_10 : decode cX12_wide 10 = .ok (.iconst 2, 1) := by decide +kernel
theorem d_X12_wide_11 : decode cX12_wide 11 = .ok (.aload_n 0, 1) := by decide +kernel
theorem d_X12_wide_12 : decode cX12_wide 12 = .ok (.iload_n 1, 1) := by decide +kernel
theorem d_X12_wide_13 : decode cX12_wide 13 = .ok (.iconst 1, 1) := by decide +kernel
theorem d_X12_wide_14 : decode cX12_wide 14 = .ok (.invokevirtual 133, 3) := by decide +kernel
theorem d_X12_wide_17 : decode cX12_wide 17 = .ok (.imul, 1) := by decide +kernel
theorem d_X12_wide_18 : decode cX12_wide 18 = .ok (.goto 9, 3) := by decide +kernel
theorem d_X12_wide_21 : decode cX12_wide 21 = .ok (.aload_n 0, 1) := by decide +kernel
theorem d_X12_wide_22 : decode cX12_wide 22 = .ok (.iload_n 1, 1) := by decide +kernel
theorem d_X12_wide_23 : decode cX12_wide 23 = .ok (.iconst 1, 1) := by decide +kernel
theorem d_X12_wide_24 : decode cX12_wide 24 = .ok (.invokevirtual 133, 3) := by decide +kernel
theorem d_X12_wide_27 : decode cX12_wide 27 = .ok (.ireturn, 1) := by decide +kernel
set_option maxHeartbeats 4000000 in
set_option maxRecDepth 100000 in
theorem t_X12_wide {X : XT_x} {G : GT_g} {M : Mem_m} {z : Int} (C : Cx_ (K_X12_wide) X G) (hR : Rx_ X G (some .int)) (x0 : Nat) (x1 : Int) (o_x1 : ok_i x1) (h : f_X12_wide G.2.2.2 M x0 x1 = some z) : V_ (K_X12_wide) X G (Fq_ X G (Qi_ G M z)) M 0 [(0, .ref (G.1 + x0)), (1, iv_i x1)] [] := by
  unfold f_X12_wide at h
  refine V_aload_n (j := 0) C d_X12_wide_0 rfl rfl ?_
  refine V_iload_n (j := 1) C d_X12_wide_1 rfl rfl ?_
  refine V_iconst C d_X12_wide_2 ?_
  refine V_callVri (K' := K_X12_noteOf) (a := x0) (ci := 12) (av := [iv_i x1, iv_i 0]) (rest := []) yi_X12_noteOf (by decide) rfl C (yk_X12_noteOf) l1_X12_133 (by decide) d_X12_wide_3 (fun v hv => ct_X12_noteOf x0 x1 0 o_x1 (okc rfl) hv) rfl rfl (Nat.le_of_ble_eq_true rfl) h (fun v1 o1 h => ?_)
  refine V_iconst C d_X12_wide_6 ?_
  refine V_icmp_ne (tgt := 21) C d_X12_wide_7 (by decide) o1 (okc rfl) h (fun h => ?_) (fun h => ?_)
  · skip
    refine V_iconst C d_X12_wide_10 ?_
    refine V_aload_n (j := 0) C d_X12_wide_11 rfl rfl ?_
    refine V_iload_n (j := 1) C d_X12_wide_12 rfl rfl ?_
    refine V_iconst C d_X12_wide_13 ?_
    refine V_callVri (K' := K_X12_noteOf) (a := x0) (ci := 12) (av := [iv_i x1, iv_i 1]) (rest := [iv_i 2]) yi_X12_noteOf (by decide) rfl C (yk_X12_noteOf) l1_X12_133 (by decide) d_X12_wide_14 (fun v hv => ct_X12_noteOf x0 x1 1 o_x1 (okc rfl) hv) rfl rfl (Nat.le_of_ble_eq_true rfl) h (fun v2 o2 h => ?_)
    refine V_imul C d_X12_wide_17 ?_
    refine V_goto (tgt := 27) C d_X12_wide_18 (by decide) ?_
    exact V_iret_r C hR d_X12_wide_27 (ok_wr _) h
  · skip
    refine V_aload_n (j := 0) C d_X12_wide_21 rfl rfl ?_
    refine V_iload_n (j := 1) C d_X12_wide_22 rfl rfl ?_
    refine V_iconst C d_X12_wide_23 ?_
    refine V_callVri (K' := K_X12_noteOf) (a := x0) (ci := 12) (av := [iv_i x1, iv_i 1]) (rest := []) yi_X12_noteOf (by decide) rfl C (yk_X12_noteOf) l1_X12_133 (by decide) d_X12_wide_24 (fun v hv => ct_X12_noteOf x0 x1 1 o_x1 (okc rfl) hv) rfl rfl (Nat.le_of_ble_eq_true rfl) h (fun v3 o3 h => ?_)
    exact V_iret_r C hR d_X12_wide_27 o3 h
set_option maxHeartbeats 4000000 in
set_option maxRecDepth 100000 in
theorem ct_X12_wide {l : Launch} {G : GT_g} {M : Mem_m} (x0 : Nat) (x1 : Int) (o_x1 : ok_i x1) {z : Int} (h : f_X12_wide G.2.2.2 M x0 x1 = some z) : MI_ l yX12_wide K_X12_wide (some .int) G M [.ref (G.1 + x0), iv_i x1] M z :=
  met_of (by decide +kernel) rfl (Nat.le_of_ble_eq_true rfl) (fun X hl C hR => by subst hl; exact t_X12_wide C hR x0 x1 o_x1 h)
theorem d_X12_soundOf_0 : decode cX12_soundOf 0 = .ok (.aload_n 0, 1) := by decide +kernel
theorem d_X12_soundOf_1 : decode cX12_soundOf 1 = .ok (.iload_n 1, 1) := by decide +kernel
theorem d_X12_soundOf_2 : decode cX12_soundOf 2 = .ok (.iconst 2, 1) := by decide +kernel
theorem d_X12_soundOf_3 : decode cX12_soundOf 3 = .ok (.iload_n 2, 1) := by decide +kernel
theorem d_X12_soundOf_4 : decode cX12_soundOf 4 = .ok (.aload_n 0, 1) := by decide +kernel
theorem d_X12_soundOf_5 : decode cX12_soundOf 5 = .ok (.iload_n 1, 1) := by decide +kernel
theorem d_X12_soundOf_6 : decode cX12_soundOf 6 = .ok (.iconst 1, 1) := by decide +kernel
theorem d_X12_soundOf_7 : decode cX12_soundOf 7 = .ok (.invokevirtual 133, 3) := by decide +kernel
theorem d_X12_soundOf_10 : decode cX12_soundOf 10 = .ok (.irem, 1) := by decide +kernel
theorem d_X12_soundOf_11 : decode cX12_soundOf 11 = .ok (.iadd, 1) := by decide +kernel
theorem d_X12_soundOf_12 : decode cX12_soundOf 12 = .ok (.invokevirtual 133, 3) := by decide +kernel
theorem d_X12_soundOf_15 : decode cX12_soundOf 15 = .ok (.ireturn, 1) := by decide +kernel
set_option maxHeartbeats 4000000 in
set_option maxRecDepth 100000 in
theorem t_X12_soundOf {X : XT_x} {G : GT_g} {M : Mem_m} {z : Int} (C : Cx_ (K_X12_soundOf) X G) (hR : Rx_ X G (some .int)) (x0 : Nat) (x1 : Int) (x2 : Int) (o_x1 : ok_i x1) (o_x2 : ok_i x2) (h : f_X12_soundOf G.2.2.2 M x0 x1 x2 = some z) : V_ (K_X12_soundOf) X G (Fq_ X G (Qi_ G M z)) M 0 [(0, .ref (G.1 + x0)), (1, iv_i x1), (2, iv_i x2)] [] := by
  unfold f_X12_soundOf at h
  refine V_aload_n (j := 0) C d_X12_soundOf_0 rfl rfl ?_
  refine V_iload_n (j := 1) C d_X12_soundOf_1 rfl rfl ?_
  refine V_iconst C d_X12_soundOf_2 ?_
  refine V_iload_n (j := 2) C d_X12_soundOf_3 rfl rfl ?_
  refine V_aload_n (j := 0) C d_X12_soundOf_4 rfl rfl ?_
  refine V_iload_n (j := 1) C d_X12_soundOf_5 rfl rfl ?_
  refine V_iconst C d_X12_soundOf_6 ?_
  refine V_callVri (K' := K_X12_noteOf) (a := x0) (ci := 12) (av := [iv_i x1, iv_i 1]) (rest := [iv_i x2, iv_i 2, iv_i x1, .ref (G.1 + x0)]) yi_X12_noteOf (by decide) rfl C (yk_X12_noteOf) l1_X12_133 (by decide) d_X12_soundOf_7 (fun v hv => ct_X12_noteOf x0 x1 1 o_x1 (okc rfl) hv) rfl rfl (Nat.le_of_ble_eq_true rfl) h (fun v1 o1 h => ?_)
  refine V_irem C d_X12_soundOf_10 o1 h (fun h => ?_)
  refine V_iadd C d_X12_soundOf_11 ?_
  refine V_callVri (K' := K_X12_noteOf) (a := x0) (ci := 12) (av := [iv_i x1, iv_i (wr_i (2 + (rm_i x2 v1)))]) (rest := []) yi_X12_noteOf (by decide) rfl C (yk_X12_noteOf) l1_X12_133 (by decide) d_X12_soundOf_12 (fun v hv => ct_X12_noteOf x0 x1 (wr_i (2 + (rm_i x2 v1))) o_x1 (ok_wr _) hv) rfl rfl (Nat.le_of_ble_eq_true rfl) h (fun v2 o2 h => ?_)
  exact V_iret_r C hR d_X12_soundOf_15 o2 h
set_option maxHeartbeats 4000000 in
set_option maxRecDepth 100000 in
theorem ct_X12_soundOf {l : Launch} {G : GT_g} {M : Mem_m} (x0 : Nat) (x1 : Int) (x2 : Int) (o_x1 : ok_i x1) (o_x2 : ok_i x2) {z : Int} (h : f_X12_soundOf G.2.2.2 M x0 x1 x2 = some z) : MI_ l yX12_soundOf K_X12_soundOf (some .int) G M [.ref (G.1 + x0), iv_i x1, iv_i x2] M z :=
  met_of (by decide +kernel) rfl (Nat.le_of_ble_eq_true rfl) (fun X hl C hR => by subst hl; exact t_X12_soundOf C hR x0 x1 x2 o_x1 o_x2 h)
theorem d_X12_standsAt_0 : decode cX12_standsAt 0 = .ok (.aload_n 0, 1) := by decide +kernel
theorem d_X12_standsAt_1 : decode cX12_standsAt 1 = .ok (.iload_n 1, 1) := by decide +kernel
theorem d_X12_standsAt_2 : decode cX12_standsAt 2 = .ok (.bipush 6, 2) := by decide +kernel
theorem d_X12_standsAt_4 : decode cX12_standsAt 4 = .ok (.invokevirtual 133, 3) := by decide +kernel
theorem d_X12_standsAt_7 : decode cX12_standsAt 7 = .ok (.ifCond .eq 19, 3) := by decide +kernel
theorem d_X12_standsAt_10 : decode cX12_standsAt 10 = .ok (.iload_n 3, 1) := by decide +kernel
theorem d_X12_standsAt_11 : decode cX12_standsAt 11 = .ok (.aload_n 0, 1) := by decide +kernel
theorem d_X12_standsAt_12 : decode cX12_standsAt 12 = .ok (.iload_n 1, 1) := by decide +kernel
theorem d_X12_standsAt_13 : decode cX12_standsAt 13 = .ok (.invokevirtual 136, 3) := by decide +kernel
theorem d_X12_standsAt_16 : decode cX12_standsAt 16 = .ok (.iadd, 1) := by decide +kernel
theorem d_X12_standsAt_17 : decode cX12_standsAt 17 = .ok (.aload_n 0, 1) := by decide +kernel
theorem d_X12_standsAt_18 : decode cX12_standsAt 18 = .ok (.iload_n 2, 1) := by decide +kernel
theorem d_X12_standsAt_19 : decode cX12_standsAt 19 = .ok (.iconst 0, 1) := by decide +kernel
theorem d_X12_standsAt_20 : decode cX12_standsAt 20 = .ok (.invokevirtual 98, 3) := by decide +kernel
theorem d_X12_standsAt_23 : decode cX12_standsAt 23 = .ok (.if_icmp .le 5, 3) := by decide +kernel
theorem d_X12_standsAt_26 : decode cX12_standsAt 26 = .ok (.iconst 0, 1) := by decide +kernel
theorem d_X12_standsAt_27 : decode cX12_standsAt 27 = .ok (.ireturn, 1) := by decide +kernel
theorem d_X12_standsAt_28 : decode cX12_standsAt 28 = .ok (.iconst 0, 1) := by decide +kernel
theorem d_X12_standsAt_29 : decode cX12_standsAt 29 = .ok (.istore 4, 2) := by decide +kernel
theorem d_X12_standsAt_31 : decode cX12_standsAt 31 = .ok (.iload 4, 2) := by decide +kernel
theorem d_X12_standsAt_33 : decode cX12_standsAt 33 = .ok (.aload_n 0, 1) := by decide +kernel
theorem d_X12_standsAt_34 : decode cX12_standsAt 34 = .ok (.iload_n 1, 1) := by decide +kernel
theorem d_X12_standsAt_35 : decode cX12_standsAt 35 = .ok (.invokevirtual 136, 3) := by decide +kernel
theorem d_X12_standsAt_38 : decode cX12_standsAt 38 = .ok (.if_icmp .ge 32, 3) := by decide +kernel
theorem d_X12_standsAt_41 : decode cX12_standsAt 41 = .ok (.aload_n 0, 1) := by decide +kernel
theorem d_X12_standsAt_42 : decode cX12_standsAt 42 = .ok (.iload_n 2, 1) := by decide +kernel
theorem d_X12_standsAt_43 : decode cX12_standsAt 43 = .ok (.iconst 1, 1) := by decide +kernel
theorem d_X12_standsAt_44 : decode cX12_standsAt 44 = .ok (.iload_n 3, 1) := by decide +kernel
theorem d_X12_standsAt_45 : decode cX12_standsAt 45 = .ok (.iadd, 1) := by decide +kernel
theorem d_X12_standsAt_46 : decode cX12_standsAt 46 = .ok (.iload 4, 2) := by decide +kernel
theorem d_X12_standsAt_48 : decode cX12_standsAt 48 = .ok (.iadd, 1) := by decide +kernel
theorem d_X12_standsAt_49 : decode cX12_standsAt 49 = .ok (.invokevirtual 98, 3) := by decide +kernel
theorem d_X12_standsAt_52 : decode cX12_standsAt 52 = .ok (.aload_n 0, 1) := by decide +kernel
theorem d_X12_standsAt_53 : decode cX12_standsAt 53 = .ok (.iload_n 1, 1) := by decide +kernel
theorem d_X12_standsAt_54 : decode cX12_standsAt 54 = .ok (.iload 4, 2) := by decide +kernel
theorem d_X12_standsAt_56 : decode cX12_standsAt 56 = .ok (.invokevirtual 140, 3) := by decide +kernel
theorem d_X12_standsAt_59 : decode cX12_standsAt 59 = .ok (.if_icmp .eq 5, 3) := by decide +kernel
theorem d_X12_standsAt_62 : decode cX12_standsAt 62 = .ok (.iconst 0, 1) := by decide +kernel
theorem d_X12_standsAt_63 : decode cX12_standsAt 63 = .ok (.ireturn, 1) := by decide +kernel
theorem d_X12_standsAt_64 : decode cX12_standsAt 64 = .ok (.iinc 4 1, 3) := by decide +kernel
theorem d_X12_standsAt_67 : decode cX12_standsAt 67 = .ok (.goto (-36), 3) := by decide +kernel
theorem d_X12_standsAt_70 : decode cX12_standsAt 70 = .ok (.iconst 1, 1) := by decide +kernel
theorem d_X12_standsAt_71 : decode cX12_standsAt 71 = .ok (.ireturn, 1) := by decide +kernel
set_option maxHeartbeats 4000000 in
set_option maxRecDepth 100000 in
theorem t_X12_standsAt_31 {X : XT_x} {G : GT_g} {z : Int} (C : Cx_ (K_X12_standsAt) X G) (hR : Rx_ X G (some .boolean)) (M : Mem_m) (x0 : Nat) (x1 : Int) (x2 : Int) (x3 : Int) (o_x1 : ok_i x1) (o_x2 : ok_i x2) (o_x3 : ok_i x3) : ∀ (n : Nat) (x4 : Int) (o_x4 : ok_i x4), f_X12_standsAt_31 G.2.2.2 M x0 x1 x2 x3 n x4 = some z → V_ (K_X12_standsAt) X G (Fq_ X G (Qi_ G M z)) M 31 [(0, .ref (G.1 + x0)), (1, iv_i x1), (2, iv_i x2), (3, iv_i x3), (4, iv_i x4)] [] := by
  intro n
  induction n with
  | zero => intro x4 o_x4 h; exact absurd h (by simp [f_X12_standsAt_31])
  | succ n ih =>
    intro x4 o_x4 h
    unfold f_X12_standsAt_31 at h
    refine V_iload (j := 4) C d_X12_standsAt_31 rfl ?_
    refine V_aload_n (j := 0) C d_X12_standsAt_33 rfl rfl ?_
    refine V_iload_n (j := 1) C d_X12_standsAt_34 rfl rfl ?_
    refine V_callVri (K' := K_X12_wide) (a := x0) (ci := 12) (av := [iv_i x1]) (rest := [iv_i x4]) yi_X12_wide (by decide) rfl C (yk_X12_wide) l1_X12_136 (by decide) d_X12_standsAt_35 (fun v hv => ct_X12_wide x0 x1 o_x1 hv) rfl rfl (Nat.le_of_ble_eq_true rfl) h (fun v1 o1 h => ?_)
    refine V_icmp_ge (tgt := 70) C d_X12_standsAt_38 (by decide) o_x4 o1 h (fun h => ?_) (fun h => ?_)
    · skip
      refine V_aload_n (j := 0) C d_X12_standsAt_41 rfl rfl ?_
      refine V_iload_n (j := 2) C d_X12_standsAt_42 rfl rfl ?_
      refine V_iconst C d_X12_standsAt_43 ?_
      refine V_iload_n (j := 3) C d_X12_standsAt_44 rfl rfl ?_
      refine V_iadd C d_X12_standsAt_45 ?_
      refine V_iload (j := 4) C d_X12_standsAt_46 rfl ?_
      refine V_iadd C d_X12_standsAt_48 ?_
      refine V_callVri (K' := K_X12_of) (a := x0) (ci := 12) (av := [iv_i x2, iv_i (wr_i ((wr_i (1 + x3)) + x4))]) (rest := []) yi_X12_of (by decide) rfl C (yk_X12_of) l1_X12_98 (by decide) d_X12_standsAt_49 (fun v hv => ct_X12_of x0 x2 (wr_i ((wr_i (1 + x3)) + x4)) o_x2 (ok_wr _) hv) rfl rfl (Nat.le_of_ble_eq_true rfl) h (fun v2 o2 h => ?_)
      refine V_aload_n (j := 0) C d_X12_standsAt_52 rfl rfl ?_
      refine V_iload_n (j := 1) C d_X12_standsAt_53 rfl rfl ?_
      refine V_iload (j := 4) C d_X12_standsAt_54 rfl ?_
      refine V_callVri (K' := K_X12_soundOf) (a := x0) (ci := 12) (av := [iv_i x1, iv_i x4]) (rest := [iv_i v2]) yi_X12_soundOf (by decide) rfl C (yk_X12_soundOf) l1_X12_140 (by decide) d_X12_standsAt_56 (fun v hv => ct_X12_soundOf x0 x1 x4 o_x1 o_x4 hv) rfl rfl (Nat.le_of_ble_eq_true rfl) h (fun v3 o3 h => ?_)
      refine V_icmp_eq (tgt := 64) C d_X12_standsAt_59 (by decide) o2 o3 h (fun h => ?_) (fun h => ?_)
      · skip
        refine V_iinc (j := 4) (lv' := [(4, iv_i (wr_i (x4 + 1))), (0, .ref (G.1 + x0)), (1, iv_i x1), (2, iv_i x2), (3, iv_i x3)]) C d_X12_standsAt_64 rfl (by decide) rfl ?_
        refine V_goto (tgt := 31) C d_X12_standsAt_67 (by decide) ?_
        refine V_lv [1, 2, 3, 4, 0] rfl (ih (wr_i (x4 + 1)) (ok_wr _) h)
      · skip
        refine V_iconst C d_X12_standsAt_62 ?_
        exact V_zret_r C hR d_X12_standsAt_63 (Or.inl rfl) h
    · skip
      refine V_iconst C d_X12_standsAt_70 ?_
      exact V_zret_r C hR d_X12_standsAt_71 (Or.inr rfl) h
set_option maxHeartbeats 4000000 in
set_option maxRecDepth 100000 in
theorem t_X12_standsAt {X : XT_x} {G : GT_g} {M : Mem_m} {z : Int} (C : Cx_ (K_X12_standsAt) X G) (hR : Rx_ X G (some .boolean)) (x0 : Nat) (x1 : Int) (x2 : Int) (x3 : Int) (o_x1 : ok_i x1) (o_x2 : ok_i x2) (o_x3 : ok_i x3) (h : f_X12_standsAt G.2.2.2 M x0 x1 x2 x3 = some z) : V_ (K_X12_standsAt) X G (Fq_ X G (Qi_ G M z)) M 0 [(0, .ref (G.1 + x0)), (1, iv_i x1), (2, iv_i x2), (3, iv_i x3)] [] := by
  unfold f_X12_standsAt at h
  refine V_aload_n (j := 0) C d_X12_standsAt_0 rfl rfl ?_
  refine V_iload_n (j := 1) C d_X12_standsAt_1 rfl rfl ?_
  refine V_bipush (v := 6) C d_X12_standsAt_2 rfl ?_
  refine V_callVri (K' := K_X12_noteOf) (a := x0) (ci := 12) (av := [iv_i x1, iv_i 6]) (rest := []) yi_X12_noteOf (by decide) rfl C (yk_X12_noteOf) l1_X12_133 (by decide) d_X12_standsAt_4 (fun v hv => ct_X12_noteOf x0 x1 6 o_x1 (okc rfl) hv) rfl rfl (Nat.le_of_ble_eq_true rfl) h (fun v1 o1 h => ?_)
  refine V_if_eq (tgt := 26) C d_X12_standsAt_7 (by decide) o1 h (fun h => ?_) (fun h => ?_)
  · skip
    refine V_iconst C d_X12_standsAt_26 ?_
    exact V_zret_r C hR d_X12_standsAt_27 (Or.inl rfl) h
  · skip
    refine V_iload_n (j := 3) C d_X12_standsAt_10 rfl rfl ?_
    refine V_aload_n (j := 0) C d_X12_standsAt_11 rfl rfl ?_
    refine V_iload_n (j := 1) C d_X12_standsAt_12 rfl rfl ?_
    refine V_callVri (K' := K_X12_wide) (a := x0) (ci := 12) (av := [iv_i x1]) (rest := [iv_i x3]) yi_X12_wide (by decide) rfl C (yk_X12_wide) l1_X12_136 (by decide) d_X12_standsAt_13 (fun v hv => ct_X12_wide x0 x1 o_x1 hv) rfl rfl (Nat.le_of_ble_eq_true rfl) h (fun v2 o2 h => ?_)
    refine V_iadd C d_X12_standsAt_16 ?_
    refine V_aload_n (j := 0) C d_X12_standsAt_17 rfl rfl ?_
    refine V_iload_n (j := 2) C d_X12_standsAt_18 rfl rfl ?_
    refine V_iconst C d_X12_standsAt_19 ?_
    refine V_callVri (K' := K_X12_of) (a := x0) (ci := 12) (av := [iv_i x2, iv_i 0]) (rest := [iv_i (wr_i (x3 + v2))]) yi_X12_of (by decide) rfl C (yk_X12_of) l1_X12_98 (by decide) d_X12_standsAt_20 (fun v hv => ct_X12_of x0 x2 0 o_x2 (okc rfl) hv) rfl rfl (Nat.le_of_ble_eq_true rfl) h (fun v3 o3 h => ?_)
    refine V_icmp_le (tgt := 28) C d_X12_standsAt_23 (by decide) (ok_wr _) o3 h (fun h => ?_) (fun h => ?_)
    · skip
      refine V_iconst C d_X12_standsAt_28 ?_
      refine V_istore (lv' := [(4, iv_i 0), (0, .ref (G.1 + x0)), (1, iv_i x1), (2, iv_i x2), (3, iv_i x3)]) C d_X12_standsAt_29 (by decide) rfl ?_
      refine V_lv [1, 2, 3, 4, 0] rfl (t_X12_standsAt_31 C hR M x0 x1 x2 x3 o_x1 o_x2 o_x3 FU_ 0 (okc rfl) h)
    · skip
      refine V_iconst C d_X12_standsAt_26 ?_
      exact V_zret_r C hR d_X12_standsAt_27 (Or.inl rfl) h
set_option maxHeartbeats 4000000 in
set_option maxRecDepth 100000 in
theorem ct_X12_standsAt {l : Launch} {G : GT_g} {M : Mem_m} (x0 : Nat) (x1 : Int) (x2 : Int) (x3 : Int) (o_x1 : ok_i x1) (o_x2 : ok_i x2) (o_x3 : ok_i x3) {z : Int} (h : f_X12_standsAt G.2.2.2 M x0 x1 x2 x3 = some z) : MI_ l yX12_standsAt K_X12_standsAt (some .boolean) G M [.ref (G.1 + x0), iv_i x1, iv_i x2, iv_i x3] M z :=
  met_of (by decide +kernel) rfl (Nat.le_of_ble_eq_true rfl) (fun X hl C hR => by subst hl; exact t_X12_standsAt C hR x0 x1 x2 x3 o_x1 o_x2 o_x3 h)
theorem d_X12_cuts_0 : decode cX12_cuts 0 = .ok (.aload_n 0, 1) := by decide +kernel
theorem d_X12_cuts_1 : decode cX12_cuts 1 = .ok (.getfield 34, 3) := by decide +kernel
theorem d_X12_cuts_4 : decode cX12_cuts 4 = .ok (.aload_n 0, 1) := by decide +kernel
theorem d_X12_cuts_5 : decode cX12_cuts 5 = .ok (.iload_n 1, 1) := by decide +kernel
theorem d_X12_cuts_6 : decode cX12_cuts 6 = .ok (.iconst 0, 1) := by decide +kernel
theorem d_X12_cuts_7 : decode cX12_cuts 7 = .ok (.invokevirtual 98, 3) := by decide +kernel
theorem d_X12_cuts_10 : decode cX12_cuts 10 = .ok (.iconst 0, 1) := by decide +kernel
theorem d_X12_cuts_11 : decode cX12_cuts 11 = .ok (.iastore, 1) := by decide +kernel
theorem d_X12_cuts_12 : decode cX12_cuts 12 = .ok (.aload_n 0, 1) := by decide +kernel
theorem d_X12_cuts_13 : decode cX12_cuts 13 = .ok (.iload_n 1, 1) := by decide +kernel
theorem d_X12_cuts_14 : decode cX12_cuts 14 = .ok (.iconst 0, 1) := by decide +kernel
theorem d_X12_cuts_15 : decode cX12_cuts 15 = .ok (.invokevirtual 98, 3) := by decide +kernel
theorem d_X12_cuts_18 : decode cX12_cuts 18 = .ok (.iconst 1, 1) := by decide +kernel
theorem d_X12_cuts_19 : decode cX12_cuts 19 = .ok (.isub, 1) := by decide +kernel
theorem d_X12_cuts_20 : decode cX12_cuts 20 = .ok (.istore_n 2, 1) := by decide +kernel
theorem d_X12_cuts_21 : decode cX12_cuts 21 = .ok (.iload_n 2, 1) := by decide +kernel
theorem d_X12_cuts_22 : decode cX12_cuts 22 = .ok (.ifCond .lt 188, 3) := by decide +kernel
theorem d_X12_cuts_25 : decode cX12_cuts 25 = .ok (.aload_n 0, 1) := by decide +kernel
theorem d_X12_cuts_26 : decode cX12_cuts 26 = .ok (.getfield 34, 3) := by decide +kernel
theorem d_X12_cuts_29 : decode cX12_cuts 29 = .ok (.iload_n 2, 1) := by decide +kernel
theorem d_X12_cuts_30 : decode cX12_cuts 30 = .ok (.iconst 5, 1) := by decide +kernel
theorem d_X12_cuts_31 : decode cX12_cuts 31 = .ok (.aload_n 0, 1) := by decide +kernel
theorem d_X12_cuts_32 : decode cX12_cuts 32 = .ok (.getfield 34, 3) := by decide +kernel
theorem d_X12_cuts_35 : decode cX12_cuts 35 = .ok (.iload_n 2, 1) := by decide +kernel
theorem d_X12_cuts_36 : decode cX12_cuts 36 = .ok (.iconst 1, 1) := by decide +kernel
theorem d_X12_cuts_37 : decode cX12_cuts 37 = .ok (.iadd, 1) := by decide +kernel
theorem d_X12_cuts_38 : decode cX12_cuts 38 = .ok (.iaload, 1) := by decide +kernel
theorem d_X12_cuts_39 : decode cX12_cuts 39 = .ok (.iadd, 1) := by decide +kernel
theorem d_X12_cuts_40 : decode cX12_cuts 40 = .ok (.iastore, 1) := by decide +kernel
theorem d_X12_cuts_41 : decode cX12_cuts 41 = .ok (.aload_n 0, 1) := by decide +kernel
theorem d_X12_cuts_42 : decode cX12_cuts 42 = .ok (.getfield 37, 3) := by decide +kernel
theorem d_X12_cuts_45 : decode cX12_cuts 45 = .ok (.iload_n 2, 1) := by decide +kernel
theorem d_X12_cuts_46 : decode cX12_cuts 46 = .ok (.bipush 100, 2) := by decide +kernel
theorem d_X12_cuts_48 : decode cX12_cuts 48 = .ok (.aload_n 0, 1) := by decide +kernel
theorem d_X12_cuts_49 : decode cX12_cuts 49 = .ok (.iload_n 1, 1) := by decide +kernel
theorem d_X12_cuts_50 : decode cX12_cuts 50 = .ok (.iconst 1, 1) := by decide +kernel
theorem d_X12_cuts_51 : decode cX12_cuts 51 = .ok (.iload_n 2, 1) := by decide +kernel
theorem d_X12_cuts_52 : decode cX12_cuts 52 = .ok (.iadd, 1) := by decide +kernel
theorem d_X12_cuts_53 : decode cX12_cuts 53 = .ok (.invokevirtual 98, 3) := by decide +kernel
theorem d_X12_cuts_56 : decode cX12_cuts 56 = .ok (.iadd, 1) := by decide +kernel
theorem d_X12_cuts_57 : decode cX12_cuts 57 = .ok (.iastore, 1) := by decide +kernel
theorem d_X12_cuts_58 : decode cX12_cuts 58 = .ok (.iconst 1, 1) := by decide +kernel
theorem d_X12_cuts_59 : decode cX12_cuts 59 = .ok (.istore_n 3, 1) := by decide +kernel
theorem d_X12_cuts_60 : decode cX12_cuts 60 = .ok (.iconst 0, 1) := by decide +kernel
theorem d_X12_cuts_61 : decode cX12_cuts 61 = .ok (.istore 4, 2) := by decide +kernel
theorem d_X12_cuts_63 : decode cX12_cuts 63 = .ok (.iload 4, 2) := by decide +kernel
theorem d_X12_cuts_65 : decode cX12_cuts 65 = .ok (.aload_n 0, 1) := by decide +kernel
theorem d_X12_cuts_66 : decode cX12_cuts 66 = .ok (.getfield 9, 3) := by decide +kernel
theorem d_X12_cuts_69 : decode cX12_cuts 69 = .ok (.sipush 1063, 3) := by decide +kernel
theorem d_X12_cuts_72 : decode cX12_cuts 72 = .ok (.iaload, 1) := by decide +kernel
theorem d_X12_cuts_73 : decode cX12_cuts 73 = .ok (.if_icmp .ge 131, 3) := by decide +kernel
theorem d_X12_cuts_76 : decode cX12_cuts 76 = .ok (.aload_n 0, 1) := by decide +kernel
theorem d_X12_cuts_77 : decode cX12_cuts 77 = .ok (.iload 4, 2) := by decide +kernel
theorem d_X12_cuts_79 : decode cX12_cuts 79 = .ok (.iload_n 1, 1) := by decide +kernel
theorem d_X12_cuts_80 : decode cX12_cuts 80 = .ok (.iload_n 2, 1) := by decide +kernel
theorem d_X12_cuts_81 : decode cX12_cuts 81 = .ok (.invokevirtual 143, 3) := by decide +kernel
theorem d_X12_cuts_84 : decode cX12_cuts 84 = .ok (.ifCond .ne 6, 3) := by decide +kernel
theorem d_X12_cuts_87 : decode cX12_cuts 87 = .ok (.goto 111, 3) := by decide +kernel
theorem d_X12_cuts_90 : decode cX12_cuts 90 = .ok (.iconst 2, 1) := by decide +kernel
theorem d_X12_cuts_91 : decode cX12_cuts 91 = .ok (.aload_n 0, 1) := by decide +kernel
theorem d_X12_cuts_92 : decode cX12_cuts 92 = .ok (.getfield 34, 3) := by decide +kernel
theorem d_X12_cuts_95 : decode cX12_cuts 95 = .ok (.iload_n 2, 1) := by decide +kernel
theorem d_X12_cuts_96 : decode cX12_cuts 96 = .ok (.aload_n 0, 1) := by decide +kernel
theorem d_X12_cuts_97 : decode cX12_cuts 97 = .ok (.iload 4, 2) := by decide +kernel
theorem d_X12_cuts_99 : decode cX12_cuts 99 = .ok (.invokevirtual 136, 3) := by decide +kernel
theorem d_X12_cuts_102 : decode cX12_cuts 102 = .ok (.iadd, 1) := by decide +kernel
theorem d_X12_cuts_103 : decode cX12_cuts 103 = .ok (.iaload, 1) := by decide +kernel
theorem d_X12_cuts_104 : decode cX12_cuts 104 = .ok (.iadd, 1) := by decide +kernel
theorem d_X12_cuts_105 : decode cX12_cuts 105 = .ok (.istore 5, 2) := by decide +kernel
theorem d_X12_cuts_107 : decode cX12_cuts 107 = .ok (.aload_n 0, 1) := by decide +kernel
theorem d_X12_cuts_108 : decode cX12_cuts 108 = .ok (.iload 4, 2) := by decide +kernel
theorem d_X12_cuts_110 : decode cX12_cuts 110 = .ok (.invokevirtual 136, 3) := by decide +kernel
theorem d_X12_cuts_113 : decode cX12_cuts 113 = .ok (.iload_n 3, 1) := by decide +kernel
theorem d_X12_cuts_114 : decode cX12_cuts 114 = .ok (.if_icmp .gt 24, 3) := by decide +kernel
theorem d_X12_cuts_117 : decode cX12_cuts 117 = .ok (.aload_n 0, 1) := by decide +kernel
theorem d_X12_cuts_118 : decode cX12_cuts 118 = .ok (.iload 4, 2) := by decide +kernel
theorem d_X12_cuts_120 : decode cX12_cuts 120 = .ok (.invokevirtual 136, 3) := by decide +kernel
theorem d_X12_cuts_123 : decode cX12_cuts 123 = .ok (.iload_n 3, 1) := by decide +kernel
theorem d_X12_cuts_124 : decode cX12_cuts 124 = .ok (.if_icmp .ne 18, 3) := by decide +kernel
theorem d_X12_cuts_127 : decode cX12_cuts 127 = .ok (.aload_n 0, 1) := by decide +kernel
theorem d_X12_cuts_128 : decode cX12_cuts 128 = .ok (.getfield 37, 3) := by decide +kernel
theorem d_X12_cuts_131 : decode cX12_cuts 131 = .ok (.iload_n 2, 1) := by decide +kernel
theorem d_X12_cuts_132 : decode cX12_cuts 132 = .ok (.iaload, 1) := by decide +kernel
theorem d_X12_cuts_133 : decode cX12_cuts 133 = .ok (.bipush 100, 2) := by decide +kernel
theorem d_X12_cuts_135 : decode cX12_cuts 135 = .ok (.if_icmp .lt 7, 3) := by decide +kernel
theorem d_X12_cuts_138 : decode cX12_cuts 138 = .ok (.iconst 1, 1) := by decide +kernel
theorem d_X12_cuts_139 : decode cX12_cuts 139 = .ok (.goto 4, 3) := by decide +kernel
theorem d_X12_cuts_142 : decode cX12_cuts 142 = .ok (.iconst 0, 1) := by decide +kernel
theorem d_X12_cuts_143 : decode cX12_cuts 143 = .ok (.istore 6, 2) := by decide +kernel
theorem d_X12_cuts_145 : decode cX12_cuts 145 = .ok (.iload 5, 2) := by decide +kernel
theorem d_X12_cuts_147 : decode cX12_cuts 147 = .ok (.aload_n 0, 1) := by decide +kernel
theorem d_X12_cuts_148 : decode cX12_cuts 148 = .ok (.getfield 34, 3) := by decide +kernel
theorem d_X12_cuts_151 : decode cX12_cuts 151 = .ok (.iload_n 2, 1) := by decide +kernel
theorem d_X12_cuts_152 : decode cX12_cuts 152 = .ok (.iaload, 1) := by decide +kernel
theorem d_X12_cuts_153 : decode cX12_cuts 153 = .ok (.if_icmp .gt 45, 3) := by decide +kernel
theorem d_X12_cuts_156 : decode cX12_cuts 156 = .ok (.iload 5, 2) := by decide +kernel
theorem d_X12_cuts_158 : decode cX12_cuts 158 = .ok (.aload_n 0, 1) := by decide +kernel
theorem d_X12_cuts_159 : decode cX12_cuts 159 = .ok (.getfield 34, 3) := by decide +kernel
theorem d_X12_cuts_162 : decode cX12_cuts 162 = .ok (.iload_n 2, 1) := by decide +kernel
theorem d_X12_cuts_163 : decode cX12_cuts 163 = .ok (.iaload, 1) := by decide +kernel
theorem d_X12_cuts_164 : decode cX12_cuts 164 = .ok (.if_icmp .ne 11, 3) := by decide +kernel
theorem d_X12_cuts_167 : decode cX12_cuts 167 = .ok (.iload 6, 2) := by decide +kernel
theorem d_X12_cuts_169 : decode cX12_cuts 169 = .ok (.ifCond .ne 6, 3) := by decide +kernel
theorem d_X12_cuts_172 : decode cX12_cuts 172 = .ok (.goto 26, 3) := by decide +kernel
theorem d_X12_cuts_175 : decode cX12_cuts 175 = .ok (.aload_n 0, 1) := by decide +kernel
theorem d_X12_cuts_176 : decode cX12_cuts 176 = .ok (.getfield 34, 3) := by decide +kernel
theorem d_X12_cuts_179 : decode cX12_cuts 179 = .ok (.iload_n 2, 1) := by decide +kernel
theorem d_X12_cuts_180 : decode cX12_cuts 180 = .ok (.iload 5, 2) := by decide +kernel
theorem d_X12_cuts_182 : decode cX12_cuts 182 = .ok (.iastore, 1) := by decide +kernel
theorem d_X12_cuts_183 : decode cX12_cuts 183 = .ok (.aload_n 0, 1) := by decide +kernel
theorem d_X12_cuts_184 : decode cX12_cuts 184 = .ok (.getfield 37, 3) := by decide +kernel
theorem d_X12_cuts_187 : decode cX12_cuts 187 = .ok (.iload_n 2, 1) := by decide +kernel
theorem d_X12_cuts_188 : decode cX12_cuts 188 = .ok (.iload 4, 2) := by decide +kernel
theorem d_X12_cuts_190 : decode cX12_cuts 190 = .ok (.iastore, 1) := by decide +kernel
theorem d_X12_cuts_191 : decode cX12_cuts 191 = .ok (.aload_n 0, 1) := by decide +kernel
theorem d_X12_cuts_192 : decode cX12_cuts 192 = .ok (.iload 4, 2) := by decide +kernel
theorem d_X12_cuts_194 : decode cX12_cuts 194 = .ok (.invokevirtual 136, 3) := by decide +kernel
theorem d_X12_cuts_197 : decode cX12_cuts 197 = .ok (.istore_n 3, 1) := by decide +kernel
theorem d_X12_cuts_198 : decode cX12_cuts 198 = .ok (.iinc 4 1, 3) := by decide +kernel
theorem d_X12_cuts_201 : decode cX12_cuts 201 = .ok (.goto (-138), 3) := by decide +kernel
theorem d_X12_cuts_204 : decode cX12_cuts 204 = .ok (.iinc 2 (-1), 3) := by decide +kernel
theorem d_X12_cuts_207 : decode cX12_cuts 207 = .ok (.goto (-186), 3) := by decide +kernel
theorem d_X12_cuts_210 : decode cX12_cuts 210 = .ok (.return_, 1) := by decide +kernel
set_option maxHeartbeats 4000000 in
set_option maxRecDepth 100000 in
theorem t_X12_cuts_175 {X : XT_x} {G : GT_g} {z : Mem_m} (C : Cx_ (K_X12_cuts) X G) (hR : Rx_ X G none) (M : Mem_m) (x0 : Nat) (x1 : Int) (x2 : Int) (x4 : Int) (x5 : Int) (o_x1 : ok_i x1) (o_x2 : ok_i x2) (o_x4 : ok_i x4) (o_x5 : ok_i x5) (k_21 : Mem_m → Int → Option Mem_m) (hk_21 : ∀ (M : Mem_m) (x2 : Int) (o_x2 : ok_i x2), k_21 M x2 = some z → V_ (K_X12_cuts) X G (Fq_ X G (Qv_ G z)) M 21 [(0, .ref (G.1 + x0)), (1, iv_i x1), (2, iv_i x2)] []) (k_63 : Mem_m → Int → Int → Option Mem_m) (hk_63 : ∀ (M : Mem_m) (x3 : Int) (x4 : Int) (o_x3 : ok_i x3) (o_x4 : ok_i x4), k_63 M x3 x4 = some z → V_ (K_X12_cuts) X G (Fq_ X G (Qv_ G z)) M 63 [(0, .ref (G.1 + x0)), (1, iv_i x1), (2, iv_i x2), (3, iv_i x3), (4, iv_i x4)] []) (h : f_X12_cuts_175 G.2.2.2 k_21 k_63 M x0 x1 x2 x4 x5 = some z) : V_ (K_X12_cuts) X G (Fq_ X G (Qv_ G z)) M 175 [(0, .ref (G.1 + x0)), (1, iv_i x1), (2, iv_i x2), (4, iv_i x4), (5, iv_i x5)] [] := by
  unfold f_X12_cuts_175 at h
  refine V_aload_n (j := 0) C d_X12_cuts_175 rfl rfl ?_
  refine V_getR C ck_12 fw_X12_34 d_X12_cuts_176 h (fun v1 h => ?_)
  refine V_iload_n (j := 2) C d_X12_cuts_179 rfl rfl ?_
  refine V_iload (j := 4) C d_X12_cuts_180 rfl ?_
  refine V_iast C d_X12_cuts_182 o_x2 o_x5 h (fun M2 h => ?_)
  refine V_aload_n (j := 0) C d_X12_cuts_183 rfl rfl ?_
  refine V_getR C ck_12 fw_X12_37 d_X12_cuts_184 h (fun v3 h => ?_)
  refine V_iload_n (j := 2) C d_X12_cuts_187 rfl rfl ?_
  refine V_iload (j := 3) C d_X12_cuts_188 rfl ?_
  refine V_iast C d_X12_cuts_190 o_x2 o_x4 h (fun M4 h => ?_)
  refine V_aload_n (j := 0) C d_X12_cuts_191 rfl rfl ?_
  refine V_iload (j := 3) C d_X12_cuts_192 rfl ?_
  refine V_callVri (K' := K_X12_wide) (a := x0) (ci := 12) (av := [iv_i x4]) (rest := []) yi_X12_wide (by decide) rfl C (yk_X12_wide) l1_X12_136 (by decide) d_X12_cuts_194 (fun v hv => ct_X12_wide x0 x4 o_x4 hv) rfl rfl (Nat.le_of_ble_eq_true rfl) h (fun v5 o5 h => ?_)
  refine V_istore_n (lv' := [(3, iv_i v5), (0, .ref (G.1 + x0)), (1, iv_i x1), (2, iv_i x2), (4, iv_i x4), (5, iv_i x5)]) C d_X12_cuts_197 rfl (by decide) rfl ?_
  refine V_iinc (j := 4) (lv' := [(4, iv_i (wr_i (x4 + 1))), (3, iv_i v5), (0, .ref (G.1 + x0)), (1, iv_i x1), (2, iv_i x2), (5, iv_i x5)]) C d_X12_cuts_198 rfl (by decide) rfl ?_
  refine V_goto (tgt := 63) C d_X12_cuts_201 (by decide) ?_
  refine V_lv [2, 3, 4, 1, 0] rfl (hk_63 M4 v5 (wr_i (x4 + 1)) o5 (ok_wr _) h)
set_option maxHeartbeats 4000000 in
set_option maxRecDepth 100000 in
theorem t_X12_cuts_143 {X : XT_x} {G : GT_g} {z : Mem_m} (C : Cx_ (K_X12_cuts) X G) (hR : Rx_ X G none) (M : Mem_m) (x0 : Nat) (x1 : Int) (x2 : Int) (x3 : Int) (x4 : Int) (x5 : Int) (s0 : Int) (o_x1 : ok_i x1) (o_x2 : ok_i x2) (o_x3 : ok_i x3) (o_x4 : ok_i x4) (o_x5 : ok_i x5) (o_s0 : ok_i s0) (k_21 : Mem_m → Int → Option Mem_m) (hk_21 : ∀ (M : Mem_m) (x2 : Int) (o_x2 : ok_i x2), k_21 M x2 = some z → V_ (K_X12_cuts) X G (Fq_ X G (Qv_ G z)) M 21 [(0, .ref (G.1 + x0)), (1, iv_i x1), (2, iv_i x2)] []) (k_63 : Mem_m → Int → Int → Option Mem_m) (hk_63 : ∀ (M : Mem_m) (x3 : Int) (x4 : Int) (o_x3 : ok_i x3) (o_x4 : ok_i x4), k_63 M x3 x4 = some z → V_ (K_X12_cuts) X G (Fq_ X G (Qv_ G z)) M 63 [(0, .ref (G.1 + x0)), (1, iv_i x1), (2, iv_i x2), (3, iv_i x3), (4, iv_i x4)] []) (h : f_X12_cuts_143 G.2.2.2 k_21 k_63 M x0 x1 x2 x3 x4 x5 s0 = some z) : V_ (K_X12_cuts) X G (Fq_ X G (Qv_ G z)) M 143 [(0, .ref (G.1 + x0)), (1, iv_i x1), (2, iv_i x2), (3, iv_i x3), (4, iv_i x4), (5, iv_i x5)] [iv_i s0] := by
  unfold f_X12_cuts_143 at h
  refine V_istore (lv' := [(6, iv_i s0), (0, .ref (G.1 + x0)), (1, iv_i x1), (2, iv_i x2), (3, iv_i x3), (4, iv_i x4), (5, iv_i x5)]) C d_X12_cuts_143 (by decide) rfl ?_
  refine V_iload (j := 6) C d_X12_cuts_145 rfl ?_
  refine V_aload_n (j := 1) C d_X12_cuts_147 rfl rfl ?_
  refine V_getR C ck_12 fw_X12_34 d_X12_cuts_148 h (fun v1 h => ?_)
  refine V_iload_n (j := 3) C d_X12_cuts_151 rfl rfl ?_
  refine V_iald C d_X12_cuts_152 o_x2 h (fun v2 o2 h => ?_)
  refine V_icmp_gt (tgt := 198) C d_X12_cuts_153 (by decide) o_x5 o2 h (fun h => ?_) (fun h => ?_)
  · skip
    refine V_iload (j := 6) C d_X12_cuts_156 rfl ?_
    refine V_aload_n (j := 1) C d_X12_cuts_158 rfl rfl ?_
    refine V_getR C ck_12 fw_X12_34 d_X12_cuts_159 h (fun v3 h => ?_)
    refine V_iload_n (j := 3) C d_X12_cuts_162 rfl rfl ?_
    refine V_iald C d_X12_cuts_163 o_x2 h (fun v4 o4 h => ?_)
    refine V_icmp_ne (tgt := 175) C d_X12_cuts_164 (by decide) o_x5 o4 h (fun h => ?_) (fun h => ?_)
    · skip
      refine V_iload (j := 0) C d_X12_cuts_167 rfl ?_
      refine V_if_ne (tgt := 175) C d_X12_cuts_169 (by decide) o_s0 h (fun h => ?_) (fun h => ?_)
      · skip
        refine V_goto (tgt := 198) C d_X12_cuts_172 (by decide) ?_
        refine V_iinc (j := 5) (lv' := [(4, iv_i (wr_i (x4 + 1))), (6, iv_i s0), (0, .ref (G.1 + x0)), (1, iv_i x1), (2, iv_i x2), (3, iv_i x3), (5, iv_i x5)]) C d_X12_cuts_198 rfl (by decide) rfl ?_
        refine V_goto (tgt := 63) C d_X12_cuts_201 (by decide) ?_
        refine V_lv [2, 3, 4, 5, 0] rfl (hk_63 M x3 (wr_i (x4 + 1)) o_x3 (ok_wr _) h)
      · skip
        refine V_lv [1, 2, 3, 5, 6] rfl (t_X12_cuts_175 C hR M x0 x1 x2 x4 x5 o_x1 o_x2 o_x4 o_x5 k_21 hk_21 k_63 hk_63 h)
    · skip
      refine V_lv [1, 2, 3, 5, 6] rfl (t_X12_cuts_175 C hR M x0 x1 x2 x4 x5 o_x1 o_x2 o_x4 o_x5 k_21 hk_21 k_63 hk_63 h)
  · skip
    refine V_iinc (j := 5) (lv' := [(4, iv_i (wr_i (x4 + 1))), (6, iv_i s0), (0, .ref (G.1 + x0)), (1, iv_i x1), (2, iv_i x2), (3, iv_i x3), (5, iv_i x5)]) C d_X12_cuts_198 rfl (by decide) rfl ?_
    refine V_goto (tgt := 63) C d_X12_cuts_201 (by decide) ?_
    refine V_lv [2, 3, 4, 5, 0] rfl (hk_63 M x3 (wr_i (x4 + 1)) o_x3 (ok_wr _) h)
set_option maxHeartbeats 4000000 in
set_option maxRecDepth 100000 in
theorem t_X12_cuts_138 {X : XT_x} {G : GT_g} {z : Mem_m} (C : Cx_ (K_X12_cuts) X G) (hR : Rx_ X G none) (M : Mem_m) (x0 : Nat) (x1 : Int) (x2 : Int) (x3 : Int) (x4 : Int) (x5 : Int) (o_x1 : ok_i x1) (o_x2 : ok_i x2) (o_x3 : ok_i x3) (o_x4 : ok_i x4) (o_x5 : ok_i x5) (k_21 : Mem_m → Int → Option Mem_m) (hk_21 : ∀ (M : Mem_m) (x2 : Int) (o_x2 : ok_i x2), k_21 M x2 = some z → V_ (K_X12_cuts) X G (Fq_ X G (Qv_ G z)) M 21 [(0, .ref (G.1 + x0)), (1, iv_i x1), (2, iv_i x2)] []) (k_63 : Mem_m → Int → Int → Option Mem_m) (hk_63 : ∀ (M : Mem_m) (x3 : Int) (x4 : Int) (o_x3 : ok_i x3) (o_x4 : ok_i x4), k_63 M x3 x4 = some z → V_ (K_X12_cuts) X G (Fq_ X G (Qv_ G z)) M 63 [(0, .ref (G.1 + x0)), (1, iv_i x1), (2, iv_i x2), (3, iv_i x3), (4, iv_i x4)] []) (h : f_X12_cuts_138 G.2.2.2 k_21 k_63 M x0 x1 x2 x3 x4 x5 = some z) : V_ (K_X12_cuts) X G (Fq_ X G (Qv_ G z)) M 138 [(0, .ref (G.1 + x0)), (1, iv_i x1), (2, iv_i x2), (3, iv_i x3), (4, iv_i x4), (5, iv_i x5)] [] := by
  unfold f_X12_cuts_138 at h
  refine V_iconst C d_X12_cuts_138 ?_
  refine V_goto (tgt := 143) C d_X12_cuts_139 (by decide) ?_
  refine V_lv [0, 1, 2, 3, 4, 5] rfl (t_X12_cuts_143 C hR M x0 x1 x2 x3 x4 x5 1 o_x1 o_x2 o_x3 o_x4 o_x5 (okc rfl) k_21 hk_21 k_63 hk_63 h)
set_option maxHeartbeats 4000000 in
set_option maxRecDepth 100000 in
theorem t_X12_cuts_142 {X : XT_x} {G : GT_g} {z : Mem_m} (C : Cx_ (K_X12_cuts) X G) (hR : Rx_ X G none) (M : Mem_m) (x0 : Nat) (x1 : Int) (x2 : Int) (x3 : Int) (x4 : Int) (x5 : Int) (o_x1 : ok_i x1) (o_x2 : ok_i x2) (o_x3 : ok_i x3) (o_x4 : ok_i x4) (o_x5 : ok_i x5) (k_21 : Mem_m → Int → Option Mem_m) (hk_21 : ∀ (M : Mem_m) (x2 : Int) (o_x2 : ok_i x2), k_21 M x2 = some z → V_ (K_X12_cuts) X G (Fq_ X G (Qv_ G z)) M 21 [(0, .ref (G.1 + x0)), (1, iv_i x1), (2, iv_i x2)] []) (k_63 : Mem_m → Int → Int → Option Mem_m) (hk_63 : ∀ (M : Mem_m) (x3 : Int) (x4 : Int) (o_x3 : ok_i x3) (o_x4 : ok_i x4), k_63 M x3 x4 = some z → V_ (K_X12_cuts) X G (Fq_ X G (Qv_ G z)) M 63 [(0, .ref (G.1 + x0)), (1, iv_i x1), (2, iv_i x2), (3, iv_i x3), (4, iv_i x4)] []) (h : f_X12_cuts_142 G.2.2.2 k_21 k_63 M x0 x1 x2 x3 x4 x5 = some z) : V_ (K_X12_cuts) X G (Fq_ X G (Qv_ G z)) M 142 [(0, .ref (G.1 + x0)), (1, iv_i x1), (2, iv_i x2), (3, iv_i x3), (4, iv_i x4), (5, iv_i x5)] [] := by
  unfold f_X12_cuts_142 at h
  refine V_iconst C d_X12_cuts_142 ?_
  refine V_lv [0, 1, 2, 3, 4, 5] rfl (t_X12_cuts_143 C hR M x0 x1 x2 x3 x4 x5 0 o_x1 o_x2 o_x3 o_x4 o_x5 (okc rfl) k_21 hk_21 k_63 hk_63 h)
set_option maxHeartbeats 4000000 in
set_option maxRecDepth 100000 in
theorem t_X12_cuts_63 {X : XT_x} {G : GT_g} {z : Mem_m} (C : Cx_ (K_X12_cuts) X G) (hR : Rx_ X G none) (x0 : Nat) (x1 : Int) (x2 : Int) (o_x1 : ok_i x1) (o_x2 : ok_i x2) (k_21 : Mem_m → Int → Option Mem_m) (hk_21 : ∀ (M : Mem_m) (x2 : Int) (o_x2 : ok_i x2), k_21 M x2 = some z → V_ (K_X12_cuts) X G (Fq_ X G (Qv_ G z)) M 21 [(0, .ref (G.1 + x0)), (1, iv_i x1), (2, iv_i x2)] []) : ∀ (n : Nat) (M : Mem_m) (x3 : Int) (x4 : Int) (o_x3 : ok_i x3) (o_x4 : ok_i x4), f_X12_cuts_63 G.2.2.2 k_21 x0 x1 x2 n M x3 x4 = some z → V_ (K_X12_cuts) X G (Fq_ X G (Qv_ G z)) M 63 [(0, .ref (G.1 + x0)), (1, iv_i x1), (2, iv_i x2), (3, iv_i x3), (4, iv_i x4)] [] := by
  intro n
  induction n with
  | zero => intro M x3 x4 o_x3 o_x4 h; exact absurd h (by simp [f_X12_cuts_63])
  | succ n ih =>
    intro M x3 x4 o_x3 o_x4 h
    unfold f_X12_cuts_63 at h
    refine V_iload (j := 4) C d_X12_cuts_63 rfl ?_
    refine V_aload_n (j := 0) C d_X12_cuts_65 rfl rfl ?_
    refine V_getR C ck_12 fw_X12_9 d_X12_cuts_66 h (fun v1 h => ?_)
    refine V_sipush (v := 1063) C d_X12_cuts_69 rfl ?_
    refine V_iald C d_X12_cuts_72 (okc rfl) h (fun v2 o2 h => ?_)
    refine V_icmp_ge (tgt := 204) C d_X12_cuts_73 (by decide) o_x4 o2 h (fun h => ?_) (fun h => ?_)
    · skip
      refine V_aload_n (j := 0) C d_X12_cuts_76 rfl rfl ?_
      refine V_iload (j := 4) C d_X12_cuts_77 rfl ?_
      refine V_iload_n (j := 1) C d_X12_cuts_79 rfl rfl ?_
      refine V_iload_n (j := 2) C d_X12_cuts_80 rfl rfl ?_
      refine V_callVri (K' := K_X12_standsAt) (a := x0) (ci := 12) (av := [iv_i x4, iv_i x1, iv_i x2]) (rest := []) yi_X12_standsAt (by decide) rfl C (yk_X12_standsAt) l1_X12_143 (by decide) d_X12_cuts_81 (fun v hv => ct_X12_standsAt x0 x4 x1 x2 o_x4 o_x1 o_x2 hv) rfl rfl (Nat.le_of_ble_eq_true rfl) h (fun v3 o3 h => ?_)
      refine V_if_ne (tgt := 90) C d_X12_cuts_84 (by decide) o3 h (fun h => ?_) (fun h => ?_)
      · skip
        refine V_goto (tgt := 198) C d_X12_cuts_87 (by decide) ?_
        refine V_iinc (j := 4) (lv' := [(4, iv_i (wr_i (x4 + 1))), (0, .ref (G.1 + x0)), (1, iv_i x1), (2, iv_i x2), (3, iv_i x3)]) C d_X12_cuts_198 rfl (by decide) rfl ?_
        refine V_goto (tgt := 63) C d_X12_cuts_201 (by decide) ?_
        refine V_lv [1, 2, 3, 4, 0] rfl (ih M x3 (wr_i (x4 + 1)) o_x3 (ok_wr _) h)
      · skip
        refine V_iconst C d_X12_cuts_90 ?_
        refine V_aload_n (j := 0) C d_X12_cuts_91 rfl rfl ?_
        refine V_getR C ck_12 fw_X12_34 d_X12_cuts_92 h (fun v4 h => ?_)
        refine V_iload_n (j := 2) C d_X12_cuts_95 rfl rfl ?_
        refine V_aload_n (j := 0) C d_X12_cuts_96 rfl rfl ?_
        refine V_iload (j := 4) C d_X12_cuts_97 rfl ?_
        refine V_callVri (K' := K_X12_wide) (a := x0) (ci := 12) (av := [iv_i x4]) (rest := [iv_i x2, .ref (G.1 + v4), iv_i 2]) yi_X12_wide (by decide) rfl C (yk_X12_wide) l1_X12_136 (by decide) d_X12_cuts_99 (fun v hv => ct_X12_wide x0 x4 o_x4 hv) rfl rfl (Nat.le_of_ble_eq_true rfl) h (fun v5 o5 h => ?_)
        refine V_iadd C d_X12_cuts_102 ?_
        refine V_iald C d_X12_cuts_103 (ok_wr _) h (fun v6 o6 h => ?_)
        refine V_iadd C d_X12_cuts_104 ?_
        refine V_istore (lv' := [(5, iv_i (wr_i (2 + v6))), (0, .ref (G.1 + x0)), (1, iv_i x1), (2, iv_i x2), (3, iv_i x3), (4, iv_i x4)]) C d_X12_cuts_105 (by decide) rfl ?_
        refine V_aload_n (j := 1) C d_X12_cuts_107 rfl rfl ?_
        refine V_iload (j := 5) C d_X12_cuts_108 rfl ?_
        refine V_callVri (K' := K_X12_wide) (a := x0) (ci := 12) (av := [iv_i x4]) (rest := []) yi_X12_wide (by decide) rfl C (yk_X12_wide) l1_X12_136 (by decide) d_X12_cuts_110 (fun v hv => ct_X12_wide x0 x4 o_x4 hv) rfl rfl (Nat.le_of_ble_eq_true rfl) h (fun v7 o7 h => ?_)
        refine V_iload_n (j := 4) C d_X12_cuts_113 rfl rfl ?_
        refine V_icmp_gt (tgt := 138) C d_X12_cuts_114 (by decide) o7 o_x3 h (fun h => ?_) (fun h => ?_)
        · skip
          refine V_aload_n (j := 1) C d_X12_cuts_117 rfl rfl ?_
          refine V_iload (j := 5) C d_X12_cuts_118 rfl ?_
          refine V_callVri (K' := K_X12_wide) (a := x0) (ci := 12) (av := [iv_i x4]) (rest := []) yi_X12_wide (by decide) rfl C (yk_X12_wide) l1_X12_136 (by decide) d_X12_cuts_120 (fun v hv => ct_X12_wide x0 x4 o_x4 hv) rfl rfl (Nat.le_of_ble_eq_true rfl) h (fun v8 o8 h => ?_)
          refine V_iload_n (j := 4) C d_X12_cuts_123 rfl rfl ?_
          refine V_icmp_ne (tgt := 142) C d_X12_cuts_124 (by decide) o8 o_x3 h (fun h => ?_) (fun h => ?_)
          · skip
            refine V_aload_n (j := 1) C d_X12_cuts_127 rfl rfl ?_
            refine V_getR C ck_12 fw_X12_37 d_X12_cuts_128 h (fun v9 h => ?_)
            refine V_iload_n (j := 3) C d_X12_cuts_131 rfl rfl ?_
            refine V_iald C d_X12_cuts_132 o_x2 h (fun v10 o10 h => ?_)
            refine V_bipush (v := 100) C d_X12_cuts_133 rfl ?_
            refine V_icmp_lt (tgt := 142) C d_X12_cuts_135 (by decide) o10 (okc rfl) h (fun h => ?_) (fun h => ?_)
            · skip
              refine V_lv [1, 2, 3, 4, 5, 0] rfl (t_X12_cuts_142 C hR M x0 x1 x2 x3 x4 (wr_i (2 + v6)) o_x1 o_x2 o_x3 o_x4 (ok_wr _) k_21 hk_21 (fun M x3 x4 => f_X12_cuts_63 G.2.2.2 k_21 x0 x1 x2 n M x3 x4) (fun M x3 x4 o_x3 o_x4 h9 => ih M x3 x4 o_x3 o_x4 h9) h)
            · skip
              refine V_lv [1, 2, 3, 4, 5, 0] rfl (t_X12_cuts_138 C hR M x0 x1 x2 x3 x4 (wr_i (2 + v6)) o_x1 o_x2 o_x3 o_x4 (ok_wr _) k_21 hk_21 (fun M x3 x4 => f_X12_cuts_63 G.2.2.2 k_21 x0 x1 x2 n M x3 x4) (fun M x3 x4 o_x3 o_x4 h9 => ih M x3 x4 o_x3 o_x4 h9) h)
          · skip
            refine V_lv [1, 2, 3, 4, 5, 0] rfl (t_X12_cuts_142 C hR M x0 x1 x2 x3 x4 (wr_i (2 + v6)) o_x1 o_x2 o_x3 o_x4 (ok_wr _) k_21 hk_21 (fun M x3 x4 => f_X12_cuts_63 G.2.2.2 k_21 x0 x1 x2 n M x3 x4) (fun M x3 x4 o_x3 o_x4 h9 => ih M x3 x4 o_x3 o_x4 h9) h)
        · skip
          refine V_lv [1, 2, 3, 4, 5, 0] rfl (t_X12_cuts_138 C hR M x0 x1 x2 x3 x4 (wr_i (2 + v6)) o_x1 o_x2 o_x3 o_x4 (ok_wr _) k_21 hk_21 (fun M x3 x4 => f_X12_cuts_63 G.2.2.2 k_21 x0 x1 x2 n M x3 x4) (fun M x3 x4 o_x3 o_x4 h9 => ih M x3 x4 o_x3 o_x4 h9) h)
    · skip
      refine V_iinc (j := 2) (lv' := [(2, iv_i (wr_i (x2 + (-1)))), (0, .ref (G.1 + x0)), (1, iv_i x1), (3, iv_i x3), (4, iv_i x4)]) C d_X12_cuts_204 rfl (by decide) rfl ?_
      refine V_goto (tgt := 21) C d_X12_cuts_207 (by decide) ?_
      refine V_lv [1, 2, 0] rfl (hk_21 M (wr_i (x2 + (-1))) (ok_wr _) h)
set_option maxHeartbeats 4000000 in
set_option maxRecDepth 100000 in
theorem t_X12_cuts_21 {X : XT_x} {G : GT_g} {z : Mem_m} (C : Cx_ (K_X12_cuts) X G) (hR : Rx_ X G none) (x0 : Nat) (x1 : Int) (o_x1 : ok_i x1) : ∀ (n : Nat) (M : Mem_m) (x2 : Int) (o_x2 : ok_i x2), f_X12_cuts_21 G.2.2.2 x0 x1 n M x2 = some z → V_ (K_X12_cuts) X G (Fq_ X G (Qv_ G z)) M 21 [(0, .ref (G.1 + x0)), (1, iv_i x1), (2, iv_i x2)] [] := by
  intro n
  induction n with
  | zero => intro M x2 o_x2 h; exact absurd h (by simp [f_X12_cuts_21])
  | succ n ih =>
    intro M x2 o_x2 h
    unfold f_X12_cuts_21 at h
    refine V_iload_n (j := 2) C d_X12_cuts_21 rfl rfl ?_
    refine V_if_lt (tgt := 210) C d_X12_cuts_22 (by decide) o_x2 h (fun h => ?_) (fun h => ?_)
    · skip
      exact V_vret C hR d_X12_cuts_210 (Option.some.inj h)
    · skip
      refine V_aload_n (j := 0) C d_X12_cuts_25 rfl rfl ?_
      refine V_getR C ck_12 fw_X12_34 d_X12_cuts_26 h (fun v1 h => ?_)
      refine V_iload_n (j := 2) C d_X12_cuts_29 rfl rfl ?_
      refine V_iconst C d_X12_cuts_30 ?_
      refine V_aload_n (j := 0) C d_X12_cuts_31 rfl rfl ?_
      refine V_getR C ck_12 fw_X12_34 d_X12_cuts_32 h (fun v2 h => ?_)
      refine V_iload_n (j := 2) C d_X12_cuts_35 rfl rfl ?_
      refine V_iconst C d_X12_cuts_36 ?_
      refine V_iadd C d_X12_cuts_37 ?_
      refine V_iald C d_X12_cuts_38 (ok_wr _) h (fun v3 o3 h => ?_)
      refine V_iadd C d_X12_cuts_39 ?_
      refine V_iast C d_X12_cuts_40 o_x2 (ok_wr _) h (fun M4 h => ?_)
      refine V_aload_n (j := 0) C d_X12_cuts_41 rfl rfl ?_
      refine V_getR C ck_12 fw_X12_37 d_X12_cuts_42 h (fun v5 h => ?_)
      refine V_iload_n (j := 2) C d_X12_cuts_45 rfl rfl ?_
      refine V_bipush (v := 100) C d_X12_cuts_46 rfl ?_
      refine V_aload_n (j := 0) C d_X12_cuts_48 rfl rfl ?_
      refine V_iload_n (j := 1) C d_X12_cuts_49 rfl rfl ?_
      refine V_iconst C d_X12_cuts_50 ?_
      refine V_iload_n (j := 2) C d_X12_cuts_51 rfl rfl ?_
      refine V_iadd C d_X12_cuts_52 ?_
      refine V_callVri (K' := K_X12_of) (a := x0) (ci := 12) (av := [iv_i x1, iv_i (wr_i (1 + x2))]) (rest := [iv_i 100, iv_i x2, .ref (G.1 + v5)]) yi_X12_of (by decide) rfl C (yk_X12_of) l1_X12_98 (by decide) d_X12_cuts_53 (fun v hv => ct_X12_of x0 x1 (wr_i (1 + x2)) o_x1 (ok_wr _) hv) rfl rfl (Nat.le_of_ble_eq_true rfl) h (fun v6 o6 h => ?_)
      refine V_iadd C d_X12_cuts_56 ?_
      refine V_iast C d_X12_cuts_57 o_x2 (ok_wr _) h (fun M7 h => ?_)
      refine V_iconst C d_X12_cuts_58 ?_
      refine V_istore_n (lv' := [(3, iv_i 1), (0, .ref (G.1 + x0)), (1, iv_i x1), (2, iv_i x2)]) C d_X12_cuts_59 rfl (by decide) rfl ?_
      refine V_iconst C d_X12_cuts_60 ?_
      refine V_istore (lv' := [(4, iv_i 0), (3, iv_i 1), (0, .ref (G.1 + x0)), (1, iv_i x1), (2, iv_i x2)]) C d_X12_cuts_61 (by decide) rfl ?_
      refine V_lv [2, 3, 4, 1, 0] rfl (t_X12_cuts_63 C hR x0 x1 x2 o_x1 o_x2 (fun M x2 => f_X12_cuts_21 G.2.2.2 x0 x1 n M x2) (fun M x2 o_x2 h9 => ih M x2 o_x2 h9) FU_ M7 1 0 (okc rfl) (okc rfl) h)
set_option maxHeartbeats 4000000 in
set_option maxRecDepth 100000 in
theorem t_X12_cuts {X : XT_x} {G : GT_g} {M : Mem_m} {z : Mem_m} (C : Cx_ (K_X12_cuts) X G) (hR : Rx_ X G none) (x0 : Nat) (x1 : Int) (o_x1 : ok_i x1) (h : f_X12_cuts G.2.2.2 M x0 x1 = some z) : V_ (K_X12_cuts) X G (Fq_ X G (Qv_ G z)) M 0 [(0, .ref (G.1 + x0)), (1, iv_i x1)] [] := by
  unfold f_X12_cuts at h
  refine V_aload_n (j := 0) C d_X12_cuts_0 rfl rfl ?_
  refine V_getR C ck_12 fw_X12_34 d_X12_cuts_1 h (fun v1 h => ?_)
  refine V_aload_n (j := 0) C d_X12_cuts_4 rfl rfl ?_
  refine V_iload_n (j := 1) C d_X12_cuts_5 rfl rfl ?_
  refine V_iconst C d_X12_cuts_6 ?_
  refine V_callVri (K' := K_X12_of) (a := x0) (ci := 12) (av := [iv_i x1, iv_i 0]) (rest := [.ref (G.1 + v1)]) yi_X12_of (by decide) rfl C (yk_X12_of) l1_X12_98 (by decide) d_X12_cuts_7 (fun v hv => ct_X12_of x0 x1 0 o_x1 (okc rfl) hv) rfl rfl (Nat.le_of_ble_eq_true rfl) h (fun v2 o2 h => ?_)
  refine V_iconst C d_X12_cuts_10 ?_
  refine V_iast C d_X12_cuts_11 o2 (okc rfl) h (fun M3 h => ?_)
  refine V_aload_n (j := 0) C d_X12_cuts_12 rfl rfl ?_
  refine V_iload_n (j := 1) C d_X12_cuts_13 rfl rfl ?_
  refine V_iconst C d_X12_cuts_14 ?_
  refine V_callVri (K' := K_X12_of) (a := x0) (ci := 12) (av := [iv_i x1, iv_i 0]) (rest := []) yi_X12_of (by decide) rfl C (yk_X12_of) l1_X12_98 (by decide) d_X12_cuts_15 (fun v hv => ct_X12_of x0 x1 0 o_x1 (okc rfl) hv) rfl rfl (Nat.le_of_ble_eq_true rfl) h (fun v4 o4 h => ?_)
  refine V_iconst C d_X12_cuts_18 ?_
  refine V_isub C d_X12_cuts_19 ?_
  refine V_istore_n (lv' := [(2, iv_i (wr_i (v4 - 1))), (0, .ref (G.1 + x0)), (1, iv_i x1)]) C d_X12_cuts_20 rfl (by decide) rfl ?_
  refine V_lv [1, 2, 0] rfl (t_X12_cuts_21 C hR x0 x1 o_x1 FU_ M3 (wr_i (v4 - 1)) (ok_wr _) h)
set_option maxHeartbeats 4000000 in
set_option maxRecDepth 100000 in
theorem ct_X12_cuts {l : Launch} {G : GT_g} {M : Mem_m} (x0 : Nat) (x1 : Int) (o_x1 : ok_i x1) {z : Mem_m} (h : f_X12_cuts G.2.2.2 M x0 x1 = some z) : MV_ l yX12_cuts K_X12_cuts none G M [.ref (G.1 + x0), iv_i x1] z :=
  met_of (by decide +kernel) rfl (Nat.le_of_ble_eq_true rfl) (fun X hl C hR => by subst hl; exact t_X12_cuts C hR x0 x1 o_x1 h)
theorem d_X12_next_0 : decode cX12_next 0 = .ok (.iload_n 1, 1) := by decide +kernel
theorem d_X12_next_1 : decode cX12_next 1 = .ok (.aload_n 0, 1) := by decide +kernel
theorem d_X12_next_2 : decode cX12_next 2 = .ok (.getfield 37, 3) := by decide +kernel
theorem d_X12_next_5 : decode cX12_next 5 = .ok (.iload_n 1, 1) := by decide +kernel
theorem d_X12_next_6 : decode cX12_next 6 = .ok (.iaload, 1) := by decide +kernel
theorem d_X12_next_7 : decode cX12_next 7 = .ok (.bipush 100, 2) := by decide +kernel
theorem d_X12_next_9 : decode cX12_next 9 = .ok (.if_icmp .lt 7, 3) := by decide +kernel
theorem d_X12_next_12 : decode cX12_next 12 = .ok (.iconst 1, 1) := by decide +kernel
theorem d_X12_next_13 : decode cX12_next 13 = .ok (.goto 13, 3) := by decide +kernel
theorem d_X12_next_16 : decode cX12_next 16 = .ok (.aload_n 0, 1) := by decide +kernel
theorem d_X12_next_17 : decode cX12_next 17 = .ok (.aload_n 0, 1) := by decide +kernel
theorem d_X12_next_18 : decode cX12_next 18 = .ok (.getfield 37, 3) := by decide +kernel
theorem d_X12_next_21 : decode cX12_next 21 = .ok (.iload_n 1, 1) := by decide +kernel
theorem d_X12_next_22 : decode cX12_next 22 = .ok (.iaload, 1) := by decide +kernel
theorem d_X12_next_23 : decode cX12_next 23 = .ok (.invokevirtual 136, 3) := by decide +kernel
theorem d_X12_next_26 : decode cX12_next 26 = .ok (.iadd, 1) := by decide +kernel
theorem d_X12_next_27 : decode cX12_next 27 = .ok (.ireturn, 1) := by decide +kernel
set_option maxHeartbeats 4000000 in
set_option maxRecDepth 100000 in
theorem t_X12_next {X : XT_x} {G : GT_g} {M : Mem_m} {z : Int} (C : Cx_ (K_X12_next) X G) (hR : Rx_ X G (some .int)) (x0 : Nat) (x1 : Int) (o_x1 : ok_i x1) (h : f_X12_next G.2.2.2 M x0 x1 = some z) : V_ (K_X12_next) X G (Fq_ X G (Qi_ G M z)) M 0 [(0, .ref (G.1 + x0)), (1, iv_i x1)] [] := by
  unfold f_X12_next at h
  refine V_iload_n (j := 1) C d_X12_next_0 rfl rfl ?_
  refine V_aload_n (j := 0) C d_X12_next_1 rfl rfl ?_
  refine V_getR C ck_12 fw_X12_37 d_X12_next_2 h (fun v1 h => ?_)
  refine V_iload_n (j := 1) C d_X12_next_5 rfl rfl ?_
  refine V_iald C d_X12_next_6 o_x1 h (fun v2 o2 h => ?_)
  refine V_bipush (v := 100) C d_X12_next_7 rfl ?_
  refine V_icmp_lt (tgt := 16) C d_X12_next_9 (by decide) o2 (okc rfl) h (fun h => ?_) (fun h => ?_)
  · skip
    refine V_aload_n (j := 0) C d_X12_next_16 rfl rfl ?_
    refine V_aload_n (j := 0) C d_X12_next_17 rfl rfl ?_
    refine V_getR C ck_12 fw_X12_37 d_X12_next_18 h (fun v3 h => ?_)
    refine V_iload_n (j := 1) C d_X12_next_21 rfl rfl ?_
    refine V_iald C d_X12_next_22 o_x1 h (fun v4 o4 h => ?_)
    refine V_callVri (K' := K_X12_wide) (a := x0) (ci := 12) (av := [iv_i v4]) (rest := [iv_i x1]) yi_X12_wide (by decide) rfl C (yk_X12_wide) l1_X12_136 (by decide) d_X12_next_23 (fun v hv => ct_X12_wide x0 v4 o4 hv) rfl rfl (Nat.le_of_ble_eq_true rfl) h (fun v5 o5 h => ?_)
    refine V_iadd C d_X12_next_26 ?_
    exact V_iret_r C hR d_X12_next_27 (ok_wr _) h
  · skip
    refine V_iconst C d_X12_next_12 ?_
    refine V_goto (tgt := 26) C d_X12_next_13 (by decide) ?_
    refine V_iadd C d_X12_next_26 ?_
    exact V_iret_r C hR d_X12_next_27 (ok_wr _) h
set_option maxHeartbeats 4000000 in
set_option maxRecDepth 100000 in
theorem ct_X12_next {l : Launch} {G : GT_g} {M : Mem_m} (x0 : Nat) (x1 : Int) (o_x1 : ok_i x1) {z : Int} (h : f_X12_next G.2.2.2 M x0 x1 = some z) : MI_ l yX12_next K_X12_next (some .int) G M [.ref (G.1 + x0), iv_i x1] M z :=
  met_of (by decide +kernel) rfl (Nat.le_of_ble_eq_true rfl) (fun X hl C hR => by subst hl; exact t_X12_next C hR x0 x1 o_x1 h)
theorem d_X12_cut_0 : decode cX12_cut 0 = .ok (.aload_n 0, 1) := by decide +kernel
theorem d_X12_cut_1 : decode cX12_cut 1 = .ok (.iload_n 1, 1) := by decide +kernel
theorem d_X12_cut_2 : decode cX12_cut 2 = .ok (.invokevirtual 93, 3) := by decide +kernel
theorem d_X12_cut_5 : decode cX12_cut 5 = .ok (.ifCond .eq 8, 3) := by decide +kernel
theorem d_X12_cut_8 : decode cX12_cut 8 = .ok (.iload_n 2, 1) := by decide +kernel
theorem d_X12_cut_9 : decode cX12_cut 9 = .ok (.iconst (-1), 1) := by decide +kernel
theorem d_X12_cut_10 : decode cX12_cut 10 = .ok (.if_icmp .ge 5, 3) := by decide +kernel
theorem d_X12_cut_13 : decode cX12_cut 13 = .ok (.iconst (-1), 1) := by decide +kernel
theorem d_X12_cut_14 : decode cX12_cut 14 = .ok (.ireturn, 1) := by decide +kernel
theorem d_X12_cut_15 : decode cX12_cut 15 = .ok (.aload_n 0, 1) := by decide +kernel
theorem d_X12_cut_16 : decode cX12_cut 16 = .ok (.iload_n 1, 1) := by decide +kernel
theorem d_X12_cut_17 : decode cX12_cut 17 = .ok (.invokevirtual 146, 3) := by decide +kernel
theorem d_X12_cut_20 : decode cX12_cut 20 = .ok (.iload_n 2, 1) := by decide +kernel
theorem d_X12_cut_21 : decode cX12_cut 21 = .ok (.ifCond .ge 10, 3) := by decide +kernel
theorem d_X12_cut_24 : decode cX12_cut 24 = .ok (.aload_n 0, 1) := by decide +kernel
theorem d_X12_cut_25 : decode cX12_cut 25 = .ok (.getfield 34, 3) := by decide +kernel
theorem d_X12_cut_28 : decode cX12_cut 28 = .ok (.iconst 0, 1) := by decide +kernel
theorem d_X12_cut_29 : decode cX12_cut 29 = .ok (.iaload, 1) := by decide +kernel
theorem d_X12_cut_30 : decode cX12_cut 30 = .ok (.ireturn, 1) := by decide +kernel
theorem d_X12_cut_31 : decode cX12_cut 31 = .ok (.iconst 0, 1) := by decide +kernel
theorem d_X12_cut_32 : decode cX12_cut 32 = .ok (.istore_n 3, 1) := by decide +kernel
theorem d_X12_cut_33 : decode cX12_cut 33 = .ok (.iconst 0, 1) := by decide +kernel
theorem d_X12_cut_34 : decode cX12_cut 34 = .ok (.istore 4, 2) := by decide +kernel
theorem d_X12_cut_36 : decode cX12_cut 36 = .ok (.iload 4, 2) := by decide +kernel
theorem d_X12_cut_38 : decode cX12_cut 38 = .ok (.iload_n 2, 1) := by decide +kernel
theorem d_X12_cut_39 : decode cX12_cut 39 = .ok (.if_icmp .ge 25, 3) := by decide +kernel
theorem d_X12_cut_42 : decode cX12_cut 42 = .ok (.iload_n 3, 1) := by decide +kernel
theorem d_X12_cut_43 : decode cX12_cut 43 = .ok (.aload_n 0, 1) := by decide +kernel
theorem d_X12_cut_44 : decode cX12_cut 44 = .ok (.iload_n 1, 1) := by decide +kernel
theorem d_X12_cut_45 : decode cX12_cut 45 = .ok (.iconst 0, 1) := by decide +kernel
theorem d_X12_cut_46 : decode cX12_cut 46 = .ok (.invokevirtual 98, 3) := by decide +kernel
theorem d_X12_cut_49 : decode cX12_cut 49 = .ok (.if_icmp .ge 15, 3) := by decide +kernel
theorem d_X12_cut_52 : decode cX12_cut 52 = .ok (.aload_n 0, 1) := by decide +kernel
theorem d_X12_cut_53 : decode cX12_cut 53 = .ok (.iload_n 3, 1) := by decide +kernel
theorem d_X12_cut_54 : decode cX12_cut 54 = .ok (.invokevirtual 150, 3) := by decide +kernel
theorem d_X12_cut_57 : decode cX12_cut 57 = .ok (.istore_n 3, 1) := by decide +kernel
theorem d_X12_cut_58 : decode cX12_cut 58 = .ok (.iinc 4 1, 3) := by decide +kernel
theorem d_X12_cut_61 : decode cX12_cut 61 = .ok (.goto (-25), 3) := by decide +kernel
theorem d_X12_cut_64 : decode cX12_cut 64 = .ok (.iload_n 3, 1) := by decide +kernel
theorem d_X12_cut_65 : decode cX12_cut 65 = .ok (.aload_n 0, 1) := by decide +kernel
theorem d_X12_cut_66 : decode cX12_cut 66 = .ok (.iload_n 1, 1) := by decide +kernel
theorem d_X12_cut_67 : decode cX12_cut 67 = .ok (.iconst 0, 1) := by decide +kernel
theorem d_X12_cut_68 : decode cX12_cut 68 = .ok (.invokevirtual 98, 3) := by decide +kernel
theorem d_X12_cut_71 : decode cX12_cut 71 = .ok (.if_icmp .ge 12, 3) := by decide +kernel
theorem d_X12_cut_74 : decode cX12_cut 74 = .ok (.aload_n 0, 1) := by decide +kernel
theorem d_X12_cut_75 : decode cX12_cut 75 = .ok (.getfield 37, 3) := by decide +kernel
theorem d_X12_cut_78 : decode cX12_cut 78 = .ok (.iload_n 3, 1) := by decide +kernel
theorem d_X12_cut_79 : decode cX12_cut 79 = .ok (.iaload, 1) := by decide +kernel
theorem d_X12_cut_80 : decode cX12_cut 80 = .ok (.goto 5, 3) := by decide +kernel
theorem d_X12_cut_83 : decode cX12_cut 83 = .ok (.bipush (-4), 2) := by decide +kernel
theorem d_X12_cut_85 : decode cX12_cut 85 = .ok (.ireturn, 1) := by decide +kernel
set_option maxHeartbeats 4000000 in
set_option maxRecDepth 100000 in
theorem t_X12_cut_64 {X : XT_x} {G : GT_g} {z : (Mem_m × Int)} (C : Cx_ (K_X12_cut) X G) (hR : Rx_ X G (some .int)) (M : Mem_m) (x0 : Nat) (x1 : Int) (x3 : Int) (o_x1 : ok_i x1) (o_x3 : ok_i x3) (h : f_X12_cut_64 G.2.2.2 M x0 x1 x3 = some z) : V_ (K_X12_cut) X G (Fq_ X G (Qi_ G z.1 z.2)) M 64 [(0, .ref (G.1 + x0)), (1, iv_i x1), (3, iv_i x3)] [] := by
  unfold f_X12_cut_64 at h
  refine V_iload_n (j := 2) C d_X12_cut_64 rfl rfl ?_
  refine V_aload_n (j := 0) C d_X12_cut_65 rfl rfl ?_
  refine V_iload_n (j := 1) C d_X12_cut_66 rfl rfl ?_
  refine V_iconst C d_X12_cut_67 ?_
  refine V_callVri (K' := K_X12_of) (a := x0) (ci := 12) (av := [iv_i x1, iv_i 0]) (rest := [iv_i x3]) yi_X12_of (by decide) rfl C (yk_X12_of) l1_X12_98 (by decide) d_X12_cut_68 (fun v hv => ct_X12_of x0 x1 0 o_x1 (okc rfl) hv) rfl rfl (Nat.le_of_ble_eq_true rfl) h (fun v1 o1 h => ?_)
  refine V_icmp_ge (tgt := 83) C d_X12_cut_71 (by decide) o_x3 o1 h (fun h => ?_) (fun h => ?_)
  · skip
    refine V_aload_n (j := 0) C d_X12_cut_74 rfl rfl ?_
    refine V_getR C ck_12 fw_X12_37 d_X12_cut_75 h (fun v2 h => ?_)
    refine V_iload_n (j := 2) C d_X12_cut_78 rfl rfl ?_
    refine V_iald C d_X12_cut_79 o_x3 h (fun v3 o3 h => ?_)
    refine V_goto (tgt := 85) C d_X12_cut_80 (by decide) ?_
    exact V_iret_w C hR d_X12_cut_85 o3 h
  · skip
    refine V_bipush (v := (-4)) C d_X12_cut_83 rfl ?_
    exact V_iret_w C hR d_X12_cut_85 (okc rfl) h
set_option maxHeartbeats 4000000 in
set_option maxRecDepth 100000 in
theorem t_X12_cut_36 {X : XT_x} {G : GT_g} {z : (Mem_m × Int)} (C : Cx_ (K_X12_cut) X G) (hR : Rx_ X G (some .int)) (M : Mem_m) (x0 : Nat) (x1 : Int) (x2 : Int) (o_x1 : ok_i x1) (o_x2 : ok_i x2) : ∀ (n : Nat) (x3 : Int) (x4 : Int) (o_x3 : ok_i x3) (o_x4 : ok_i x4), f_X12_cut_36 G.2.2.2 M x0 x1 x2 n x3 x4 = some z → V_ (K_X12_cut) X G (Fq_ X G (Qi_ G z.1 z.2)) M 36 [(0, .ref (G.1 + x0)), (1, iv_i x1), (2, iv_i x2), (3, iv_i x3), (4, iv_i x4)] [] := by
  intro n
  induction n with
  | zero => intro x3 x4 o_x3 o_x4 h; exact absurd h (by simp [f_X12_cut_36])
  | succ n ih =>
    intro x3 x4 o_x3 o_x4 h
    unfold f_X12_cut_36 at h
    refine V_iload (j := 4) C d_X12_cut_36 rfl ?_
    refine V_iload_n (j := 2) C d_X12_cut_38 rfl rfl ?_
    refine V_icmp_ge (tgt := 64) C d_X12_cut_39 (by decide) o_x4 o_x2 h (fun h => ?_) (fun h => ?_)
    · skip
      refine V_iload_n (j := 3) C d_X12_cut_42 rfl rfl ?_
      refine V_aload_n (j := 0) C d_X12_cut_43 rfl rfl ?_
      refine V_iload_n (j := 1) C d_X12_cut_44 rfl rfl ?_
      refine V_iconst C d_X12_cut_45 ?_
      refine V_callVri (K' := K_X12_of) (a := x0) (ci := 12) (av := [iv_i x1, iv_i 0]) (rest := [iv_i x3]) yi_X12_of (by decide) rfl C (yk_X12_of) l1_X12_98 (by decide) d_X12_cut_46 (fun v hv => ct_X12_of x0 x1 0 o_x1 (okc rfl) hv) rfl rfl (Nat.le_of_ble_eq_true rfl) h (fun v1 o1 h => ?_)
      refine V_icmp_ge (tgt := 64) C d_X12_cut_49 (by decide) o_x3 o1 h (fun h => ?_) (fun h => ?_)
      · skip
        refine V_aload_n (j := 0) C d_X12_cut_52 rfl rfl ?_
        refine V_iload_n (j := 3) C d_X12_cut_53 rfl rfl ?_
        refine V_callVri (K' := K_X12_next) (a := x0) (ci := 12) (av := [iv_i x3]) (rest := []) yi_X12_next (by decide) rfl C (yk_X12_next) l1_X12_150 (by decide) d_X12_cut_54 (fun v hv => ct_X12_next x0 x3 o_x3 hv) rfl rfl (Nat.le_of_ble_eq_true rfl) h (fun v2 o2 h => ?_)
        refine V_istore_n (lv' := [(3, iv_i v2), (0, .ref (G.1 + x0)), (1, iv_i x1), (2, iv_i x2), (4, iv_i x4)]) C d_X12_cut_57 rfl (by decide) rfl ?_
        refine V_iinc (j := 4) (lv' := [(4, iv_i (wr_i (x4 + 1))), (3, iv_i v2), (0, .ref (G.1 + x0)), (1, iv_i x1), (2, iv_i x2)]) C d_X12_cut_58 rfl (by decide) rfl ?_
        refine V_goto (tgt := 36) C d_X12_cut_61 (by decide) ?_
        refine V_lv [2, 3, 4, 1, 0] rfl (ih v2 (wr_i (x4 + 1)) o2 (ok_wr _) h)
      · skip
        refine V_lv [0, 1, 3] rfl (t_X12_cut_64 C hR M x0 x1 x3 o_x1 o_x3 h)
    · skip
      refine V_lv [0, 1, 3] rfl (t_X12_cut_64 C hR M x0 x1 x3 o_x1 o_x3 h)
set_option maxHeartbeats 4000000 in
set_option maxRecDepth 100000 in
theorem t_X12_cut {X : XT_x} {G : GT_g} {M : Mem_m} {z : (Mem_m × Int)} (C : Cx_ (K_X12_cut) X G) (hR : Rx_ X G (some .int)) (x0 : Nat) (x1 : Int) (x2 : Int) (o_x1 : ok_i x1) (o_x2 : ok_i x2) (h : f_X12_cut G.2.2.2 M x0 x1 x2 = some z) : V_ (K_X12_cut) X G (Fq_ X G (Qi_ G z.1 z.2)) M 0 [(0, .ref (G.1 + x0)), (1, iv_i x1), (2, iv_i x2)] [] := by
  unfold f_X12_cut at h
  refine V_aload_n (j := 0) C d_X12_cut_0 rfl rfl ?_
  refine V_iload_n (j := 1) C d_X12_cut_1 rfl rfl ?_
  refine V_callVri (K' := K_X12_isCard) (a := x0) (ci := 12) (av := [iv_i x1]) (rest := []) yi_X12_isCard (by decide) rfl C (yk_X12_isCard) l1_X12_93 (by decide) d_X12_cut_2 (fun v hv => ct_X12_isCard x0 x1 o_x1 hv) rfl rfl (Nat.le_of_ble_eq_true rfl) h (fun v1 o1 h => ?_)
  refine V_if_eq (tgt := 13) C d_X12_cut_5 (by decide) o1 h (fun h => ?_) (fun h => ?_)
  · skip
    refine V_iconst C d_X12_cut_13 ?_
    exact V_iret_w C hR d_X12_cut_14 (okc rfl) h
  · skip
    refine V_iload_n (j := 2) C d_X12_cut_8 rfl rfl ?_
    refine V_iconst C d_X12_cut_9 ?_
    refine V_icmp_ge (tgt := 15) C d_X12_cut_10 (by decide) o_x2 (okc rfl) h (fun h => ?_) (fun h => ?_)
    · skip
      refine V_iconst C d_X12_cut_13 ?_
      exact V_iret_w C hR d_X12_cut_14 (okc rfl) h
    · skip
      refine V_aload_n (j := 0) C d_X12_cut_15 rfl rfl ?_
      refine V_iload_n (j := 1) C d_X12_cut_16 rfl rfl ?_
      refine V_callVwv (K' := K_X12_cuts) (a := x0) (ci := 12) (av := [iv_i x1]) (rest := []) yi_X12_cuts (by decide) rfl C (yk_X12_cuts) l1_X12_146 (by decide) d_X12_cut_17 (fun v hv => ct_X12_cuts x0 x1 o_x1 hv) rfl rfl (Nat.le_of_ble_eq_true rfl) h (fun M2 h => ?_)
      refine V_iload_n (j := 2) C d_X12_cut_20 rfl rfl ?_
      refine V_if_ge (tgt := 31) C d_X12_cut_21 (by decide) o_x2 h (fun h => ?_) (fun h => ?_)
      · skip
        refine V_aload_n (j := 0) C d_X12_cut_24 rfl rfl ?_
        refine V_getR C ck_12 fw_X12_34 d_X12_cut_25 h (fun v3 h => ?_)
        refine V_iconst C d_X12_cut_28 ?_
        refine V_iald C d_X12_cut_29 (okc rfl) h (fun v4 o4 h => ?_)
        exact V_iret_w C hR d_X12_cut_30 o4 h
      · skip
        refine V_iconst C d_X12_cut_31 ?_
        refine V_istore_n (lv' := [(3, iv_i 0), (0, .ref (G.1 + x0)), (1, iv_i x1), (2, iv_i x2)]) C d_X12_cut_32 rfl (by decide) rfl ?_
        refine V_iconst C d_X12_cut_33 ?_
        refine V_istore (lv' := [(4, iv_i 0), (3, iv_i 0), (0, .ref (G.1 + x0)), (1, iv_i x1), (2, iv_i x2)]) C d_X12_cut_34 (by decide) rfl ?_
        refine V_lv [2, 3, 4, 1, 0] rfl (t_X12_cut_36 C hR M2 x0 x1 x2 o_x1 o_x2 FU_ 0 0 (okc rfl) (okc rfl) h)
set_option maxHeartbeats 4000000 in
set_option maxRecDepth 100000 in
theorem ct_X12_cut {l : Launch} {G : GT_g} {M : Mem_m} (x0 : Nat) (x1 : Int) (x2 : Int) (o_x1 : ok_i x1) (o_x2 : ok_i x2) {z : (Mem_m × Int)} (h : f_X12_cut G.2.2.2 M x0 x1 x2 = some z) : MI_ l yX12_cut K_X12_cut (some .int) G M [.ref (G.1 + x0), iv_i x1, iv_i x2] z.1 z.2 :=
  met_of (by decide +kernel) rfl (Nat.le_of_ble_eq_true rfl) (fun X hl C hR => by subst hl; exact t_X12_cut C hR x0 x1 x2 o_x1 o_x2 h)
theorem d_X12_notesOf_0 : decode cX12_notesOf 0 = .ok (.aload_n 0, 1) := by decide +kernel
theorem d_X12_notesOf_1 : decode cX12_notesOf 1 = .ok (.iload_n 1, 1) := by decide +kernel
theorem d_X12_notesOf_2 : decode cX12_notesOf 2 = .ok (.invokevirtual 146, 3) := by decide +kernel
theorem d_X12_notesOf_5 : decode cX12_notesOf 5 = .ok (.iconst 0, 1) := by decide +kernel
theorem d_X12_notesOf_6 : decode cX12_notesOf 6 = .ok (.istore_n 2, 1) := by decide +kernel
theorem d_X12_notesOf_7 : decode cX12_notesOf 7 = .ok (.iconst 0, 1) := by decide +kernel
theorem d_X12_notesOf_8 : decode cX12_notesOf 8 = .ok (.istore_n 3, 1) := by decide +kernel
theorem d_X12_notesOf_9 : decode cX12_notesOf 9 = .ok (.iload_n 3, 1) := by decide +kernel
theorem d_X12_notesOf_10 : decode cX12_notesOf 10 = .ok (.aload_n 0, 1) := by decide +kernel
theorem d_X12_notesOf_11 : decode cX12_notesOf 11 = .ok (.iload_n 1, 1) := by decide +kernel
theorem d_X12_notesOf_12 : decode cX12_notesOf 12 = .ok (.iconst 0, 1) := by decide +kernel
theorem d_X12_notesOf_13 : decode cX12_notesOf 13 = .ok (.invokevirtual 98, 3) := by decide +kernel
theorem d_X12_notesOf_16 : decode cX12_notesOf 16 = .ok (.if_icmp .ge 39, 3) := by decide +kernel
theorem d_X12_notesOf_19 : decode cX12_notesOf 19 = .ok (.iload_n 2, 1) := by decide +kernel
theorem d_X12_notesOf_20 : decode cX12_notesOf 20 = .ok (.iconst 1, 1) := by decide +kernel
theorem d_X12_notesOf_21 : decode cX12_notesOf 21 = .ok (.aload_n 0, 1) := by decide +kernel
theorem d_X12_notesOf_22 : decode cX12_notesOf 22 = .ok (.getfield 37, 3) := by decide +kernel
theorem d_X12_notesOf_25 : decode cX12_notesOf 25 = .ok (.iload_n 3, 1) := by decide +kernel
theorem d_X12_notesOf_26 : decode cX12_notesOf 26 = .ok (.iaload, 1) := by decide +kernel
theorem d_X12_notesOf_27 : decode cX12_notesOf 27 = .ok (.bipush 100, 2) := by decide +kernel
theorem d_X12_notesOf_29 : decode cX12_notesOf 29 = .ok (.if_icmp .lt 8, 3) := by decide +kernel
theorem d_X12_notesOf_32 : decode cX12_notesOf 32 = .ok (.bipush 20, 2) := by decide +kernel
theorem d_X12_notesOf_34 : decode cX12_notesOf 34 = .ok (.goto 9, 3) := by decide +kernel
theorem d_X12_notesOf_37 : decode cX12_notesOf 37 = .ok (.aload_n 0, 1) := by decide +kernel
theorem d_X12_notesOf_38 : decode cX12_notesOf 38 = .ok (.getfield 37, 3) := by decide +kernel
theorem d_X12_notesOf_41 : decode cX12_notesOf 41 = .ok (.iload_n 3, 1) := by decide +kernel
theorem d_X12_notesOf_42 : decode cX12_notesOf 42 = .ok (.iaload, 1) := by decide +kernel
theorem d_X12_notesOf_43 : decode cX12_notesOf 43 = .ok (.ishl, 1) := by decide +kernel
theorem d_X12_notesOf_44 : decode cX12_notesOf 44 = .ok (.ior, 1) := by decide +kernel
theorem d_X12_notesOf_45 : decode cX12_notesOf 45 = .ok (.istore_n 2, 1) := by decide +kernel
theorem d_X12_notesOf_46 : decode cX12_notesOf 46 = .ok (.aload_n 0, 1) := by decide +kernel
theorem d_X12_notesOf_47 : decode cX12_notesOf 47 = .ok (.iload_n 3, 1) := by decide +kernel
theorem d_X12_notesOf_48 : decode cX12_notesOf 48 = .ok (.invokevirtual 150, 3) := by decide +kernel
theorem d_X12_notesOf_51 : decode cX12_notesOf 51 = .ok (.istore_n 3, 1) := by decide +kernel
theorem d_X12_notesOf_52 : decode cX12_notesOf 52 = .ok (.goto (-43), 3) := by decide +kernel
theorem d_X12_notesOf_55 : decode cX12_notesOf 55 = .ok (.iload_n 2, 1) := by decide +kernel
theorem d_X12_notesOf_56 : decode cX12_notesOf 56 = .ok (.ireturn, 1) := by decide +kernel
set_option maxHeartbeats 4000000 in
set_option maxRecDepth 100000 in
theorem t_X12_notesOf_43 {X : XT_x} {G : GT_g} {z : (Mem_m × Int)} (C : Cx_ (K_X12_notesOf) X G) (hR : Rx_ X G (some .int)) (M : Mem_m) (x0 : Nat) (x1 : Int) (x3 : Int) (s0 : Int) (s1 : Int) (s2 : Int) (o_x1 : ok_i x1) (o_x3 : ok_i x3) (o_s0 : ok_i s0) (o_s1 : ok_i s1) (o_s2 : ok_i s2) (k_9 : Int → Int → Option (Mem_m × Int)) (hk_9 : ∀ (x2 : Int) (x3 : Int) (o_x2 : ok_i x2) (o_x3 : ok_i x3), k_9 x2 x3 = some z → V_ (K_X12_notesOf) X G (Fq_ X G (Qi_ G z.1 z.2)) M 9 [(0, .ref (G.1 + x0)), (1, iv_i x1), (2, iv_i x2), (3, iv_i x3)] []) (h : f_X12_notesOf_43 G.2.2.2 k_9 M x0 x1 x3 s0 s1 s2 = some z) : V_ (K_X12_notesOf) X G (Fq_ X G (Qi_ G z.1 z.2)) M 43 [(0, .ref (G.1 + x0)), (1, iv_i x1), (3, iv_i x3)] [iv_i s0, iv_i s1, iv_i s2] := by
  unfold f_X12_notesOf_43 at h
  refine V_ishl C d_X12_notesOf_43 ?_
  refine V_ior C d_X12_notesOf_44 ?_
  refine V_istore_n (lv' := [(2, iv_i (or_i s2 (sl_i s1 s0))), (0, .ref (G.1 + x0)), (1, iv_i x1), (3, iv_i x3)]) C d_X12_notesOf_45 rfl (by decide) rfl ?_
  refine V_aload_n (j := 1) C d_X12_notesOf_46 rfl rfl ?_
  refine V_iload_n (j := 3) C d_X12_notesOf_47 rfl rfl ?_
  refine V_callVri (K' := K_X12_next) (a := x0) (ci := 12) (av := [iv_i x3]) (rest := []) yi_X12_next (by decide) rfl C (yk_X12_next) l1_X12_150 (by decide) d_X12_notesOf_48 (fun v hv => ct_X12_next x0 x3 o_x3 hv) rfl rfl (Nat.le_of_ble_eq_true rfl) h (fun v1 o1 h => ?_)
  refine V_istore_n (lv' := [(3, iv_i v1), (2, iv_i (or_i s2 (sl_i s1 s0))), (0, .ref (G.1 + x0)), (1, iv_i x1)]) C d_X12_notesOf_51 rfl (by decide) rfl ?_
  refine V_goto (tgt := 9) C d_X12_notesOf_52 (by decide) ?_
  refine V_lv [2, 3, 1, 0] rfl (hk_9 (or_i s2 (sl_i s1 s0)) v1 (ok_I _) o1 h)
set_option maxHeartbeats 4000000 in
set_option maxRecDepth 100000 in
theorem t_X12_notesOf_9 {X : XT_x} {G : GT_g} {z : (Mem_m × Int)} (C : Cx_ (K_X12_notesOf) X G) (hR : Rx_ X G (some .int)) (M : Mem_m) (x0 : Nat) (x1 : Int) (o_x1 : ok_i x1) : ∀ (n : Nat) (x2 : Int) (x3 : Int) (o_x2 : ok_i x2) (o_x3 : ok_i x3), f_X12_notesOf_9 G.2.2.2 M x0 x1 n x2 x3 = some z → V_ (K_X12_notesOf) X G (Fq_ X G (Qi_ G z.1 z.2)) M 9 [(0, .ref (G.1 + x0)), (1, iv_i x1), (2, iv_i x2), (3, iv_i x3)] [] := by
  intro n
  induction n with
  | zero => intro x2 x3 o_x2 o_x3 h; exact absurd h (by simp [f_X12_notesOf_9])
  | succ n ih =>
    intro x2 x3 o_x2 o_x3 h
    unfold f_X12_notesOf_9 at h
    refine V_iload_n (j := 3) C d_X12_notesOf_9 rfl rfl ?_
    refine V_aload_n (j := 0) C d_X12_notesOf_10 rfl rfl ?_
    refine V_iload_n (j := 1) C d_X12_notesOf_11 rfl rfl ?_
    refine V_iconst C d_X12_notesOf_12 ?_
    refine V_callVri (K' := K_X12_of) (a := x0) (ci := 12) (av := [iv_i x1, iv_i 0]) (rest := [iv_i x3]) yi_X12_of (by decide) rfl C (yk_X12_of) l1_X12_98 (by decide) d_X12_notesOf_13 (fun v hv => ct_X12_of x0 x1 0 o_x1 (okc rfl) hv) rfl rfl (Nat.le_of_ble_eq_true rfl) h (fun v1 o1 h => ?_)
    refine V_icmp_ge (tgt := 55) C d_X12_notesOf_16 (by decide) o_x3 o1 h (fun h => ?_) (fun h => ?_)
    · skip
      refine V_iload_n (j := 2) C d_X12_notesOf_19 rfl rfl ?_
      refine V_iconst C d_X12_notesOf_20 ?_
      refine V_aload_n (j := 0) C d_X12_notesOf_21 rfl rfl ?_
      refine V_getR C ck_12 fw_X12_37 d_X12_notesOf_22 h (fun v2 h => ?_)
      refine V_iload_n (j := 3) C d_X12_notesOf_25 rfl rfl ?_
      refine V_iald C d_X12_notesOf_26 o_x3 h (fun v3 o3 h => ?_)
      refine V_bipush (v := 100) C d_X12_notesOf_27 rfl ?_
      refine V_icmp_lt (tgt := 37) C d_X12_notesOf_29 (by decide) o3 (okc rfl) h (fun h => ?_) (fun h => ?_)
      · skip
        refine V_aload_n (j := 0) C d_X12_notesOf_37 rfl rfl ?_
        refine V_getR C ck_12 fw_X12_37 d_X12_notesOf_38 h (fun v4 h => ?_)
        refine V_iload_n (j := 3) C d_X12_notesOf_41 rfl rfl ?_
        refine V_iald C d_X12_notesOf_42 o_x3 h (fun v5 o5 h => ?_)
        refine V_lv [0, 1, 3] rfl (t_X12_notesOf_43 C hR M x0 x1 x3 v5 1 x2 o_x1 o_x3 o5 (okc rfl) o_x2 (fun x2 x3 => f_X12_notesOf_9 G.2.2.2 M x0 x1 n x2 x3) (fun x2 x3 o_x2 o_x3 h9 => ih x2 x3 o_x2 o_x3 h9) h)
      · skip
        refine V_bipush (v := 20) C d_X12_notesOf_32 rfl ?_
        refine V_goto (tgt := 43) C d_X12_notesOf_34 (by decide) ?_
        refine V_lv [0, 1, 3] rfl (t_X12_notesOf_43 C hR M x0 x1 x3 20 1 x2 o_x1 o_x3 (okc rfl) (okc rfl) o_x2 (fun x2 x3 => f_X12_notesOf_9 G.2.2.2 M x0 x1 n x2 x3) (fun x2 x3 o_x2 o_x3 h9 => ih x2 x3 o_x2 o_x3 h9) h)
    · skip
      refine V_iload_n (j := 2) C d_X12_notesOf_55 rfl rfl ?_
      exact V_iret_w C hR d_X12_notesOf_56 o_x2 h
set_option maxHeartbeats 4000000 in
set_option maxRecDepth 100000 in
theorem t_X12_notesOf {X : XT_x} {G : GT_g} {M : Mem_m} {z : (Mem_m × Int)} (C : Cx_ (K_X12_notesOf) X G) (hR : Rx_ X G (some .int)) (x0 : Nat) (x1 : Int) (o_x1 : ok_i x1) (h : f_X12_notesOf G.2.2.2 M x0 x1 = some z) : V_ (K_X12_notesOf) X G (Fq_ X G (Qi_ G z.1 z.2)) M 0 [(0, .ref (G.1 + x0)), (1, iv_i x1)] [] := by
  unfold f_X12_notesOf at h
  refine V_aload_n (j := 0) C d_X12_notesOf_0 rfl rfl ?_
  refine V_iload_n (j := 1) C d_X12_notesOf_1 rfl rfl ?_
  refine V_callVwv (K' := K_X12_cuts) (a := x0) (ci := 12) (av := [iv_i x1]) (rest := []) yi_X12_cuts (by decide) rfl C (yk_X12_cuts) l1_X12_146 (by decide) d_X12_notesOf_2 (fun v hv => ct_X12_cuts x0 x1 o_x1 hv) rfl rfl (Nat.le_of_ble_eq_true rfl) h (fun M1 h => ?_)
  refine V_iconst C d_X12_notesOf_5 ?_
  refine V_istore_n (lv' := [(2, iv_i 0), (0, .ref (G.1 + x0)), (1, iv_i x1)]) C d_X12_notesOf_6 rfl (by decide) rfl ?_
  refine V_iconst C d_X12_notesOf_7 ?_
  refine V_istore_n (lv' := [(3, iv_i 0), (2, iv_i 0), (0, .ref (G.1 + x0)), (1, iv_i x1)]) C d_X12_notesOf_8 rfl (by decide) rfl ?_
  refine V_lv [2, 3, 1, 0] rfl (t_X12_notesOf_9 C hR M1 x0 x1 o_x1 FU_ 0 0 (okc rfl) (okc rfl) h)
set_option maxHeartbeats 4000000 in
set_option maxRecDepth 100000 in
theorem ct_X12_notesOf {l : Launch} {G : GT_g} {M : Mem_m} (x0 : Nat) (x1 : Int) (o_x1 : ok_i x1) {z : (Mem_m × Int)} (h : f_X12_notesOf G.2.2.2 M x0 x1 = some z) : MI_ l yX12_notesOf K_X12_notesOf (some .int) G M [.ref (G.1 + x0), iv_i x1] z.1 z.2 :=
  met_of (by decide +kernel) rfl (Nat.le_of_ble_eq_true rfl) (fun X hl C hR => by subst hl; exact t_X12_notesOf C hR x0 x1 o_x1 h)
theorem d_X12_told_0 : decode cX12_told 0 = .ok (.aload_n 0, 1) := by decide +kernel
theorem d_X12_told_1 : decode cX12_told 1 = .ok (.iload_n 1, 1) := by decide +kernel
theorem d_X12_told_2 : decode cX12_told 2 = .ok (.invokevirtual 130, 3) := by decide +kernel
theorem d_X12_told_5 : decode cX12_told 5 = .ok (.ifCond .eq 13, 3) := by decide +kernel
theorem d_X12_told_8 : decode cX12_told 8 = .ok (.iload_n 2, 1) := by decide +kernel
theorem d_X12_told_9 : decode cX12_told 9 = .ok (.i2l, 1) := by decide +kernel
theorem d_X12_told_10 : decode cX12_told 10 = .ok (.lconst 0, 1) := by decide +kernel
theorem d_X12_told_11 : decode cX12_told 11 = .ok (.lconst 1, 1) := by decide +kernel
theorem d_X12_told_12 : decode cX12_told 12 = .ok (.invokestatic 69, 3) := by decide +kernel
theorem d_X12_told_15 : decode cX12_told 15 = .ok (.ifCond .ne 5, 3) := by decide +kernel
theorem d_X12_told_18 : decode cX12_told 18 = .ok (.iconst (-1), 1) := by decide +kernel
theorem d_X12_told_19 : decode cX12_told 19 = .ok (.ireturn, 1) := by decide +kernel
theorem d_X12_told_20 : decode cX12_told 20 = .ok (.iload_n 2, 1) := by decide +kernel
theorem d_X12_told_21 : decode cX12_told 21 = .ok (.ifCond .ne 9, 3) := by decide +kernel
theorem d_X12_told_24 : decode cX12_told 24 = .ok (.aload_n 0, 1) := by decide +kernel
theorem d_X12_told_25 : decode cX12_told 25 = .ok (.iload_n 1, 1) := by decide +kernel
theorem d_X12_told_26 : decode cX12_told 26 = .ok (.invokevirtual 153, 3) := by decide +kernel
theorem d_X12_told_29 : decode cX12_told 29 = .ok (.ireturn, 1) := by decide +kernel
theorem d_X12_told_30 : decode cX12_told 30 = .ok (.iconst (-1), 1) := by decide +kernel
theorem d_X12_told_31 : decode cX12_told 31 = .ok (.istore_n 3, 1) := by decide +kernel
theorem d_X12_told_32 : decode cX12_told 32 = .ok (.iconst 0, 1) := by decide +kernel
theorem d_X12_told_33 : decode cX12_told 33 = .ok (.istore 4, 2) := by decide +kernel
theorem d_X12_told_35 : decode cX12_told 35 = .ok (.iload 4, 2) := by decide +kernel
theorem d_X12_told_37 : decode cX12_told 37 = .ok (.aload_n 0, 1) := by decide +kernel
theorem d_X12_told_38 : decode cX12_told 38 = .ok (.getfield 9, 3) := by decide +kernel
theorem d_X12_told_41 : decode cX12_told 41 = .ok (.sipush 1062, 3) := by decide +kernel
theorem d_X12_told_44 : decode cX12_told 44 = .ok (.iaload, 1) := by decide +kernel
theorem d_X12_told_45 : decode cX12_told 45 = .ok (.if_icmp .ge 54, 3) := by decide +kernel
theorem d_X12_told_48 : decode cX12_told 48 = .ok (.aload_n 0, 1) := by decide +kernel
theorem d_X12_told_49 : decode cX12_told 49 = .ok (.iload 4, 2) := by decide +kernel
theorem d_X12_told_51 : decode cX12_told 51 = .ok (.invokevirtual 111, 3) := by decide +kernel
theorem d_X12_told_54 : decode cX12_told 54 = .ok (.ifCond .eq 39, 3) := by decide +kernel
theorem d_X12_told_57 : decode cX12_told 57 = .ok (.aload_n 0, 1) := by decide +kernel
theorem d_X12_told_58 : decode cX12_told 58 = .ok (.iload 4, 2) := by decide +kernel
theorem d_X12_told_60 : decode cX12_told 60 = .ok (.bipush 9, 2) := by decide +kernel
theorem d_X12_told_62 : decode cX12_told 62 = .ok (.invokevirtual 98, 3) := by decide +kernel
theorem d_X12_told_65 : decode cX12_told 65 = .ok (.ifCond .eq 28, 3) := by decide +kernel
theorem d_X12_told_68 : decode cX12_told 68 = .ok (.aload_n 0, 1) := by decide +kernel
theorem d_X12_told_69 : decode cX12_told 69 = .ok (.iload 4, 2) := by decide +kernel
theorem d_X12_told_71 : decode cX12_told 71 = .ok (.invokevirtual 156, 3) := by decide +kernel
theorem d_X12_told_74 : decode cX12_told 74 = .ok (.iload_n 1, 1) := by decide +kernel
theorem d_X12_told_75 : decode cX12_told 75 = .ok (.ishr, 1) := by decide +kernel
theorem d_X12_told_76 : decode cX12_told 76 = .ok (.iconst 1, 1) := by decide +kernel
theorem d_X12_told_77 : decode cX12_told 77 = .ok (.iand, 1) := by decide +kernel
theorem d_X12_told_78 : decode cX12_told 78 = .ok (.iconst 1, 1) := by decide +kernel
theorem d_X12_told_79 : decode cX12_told 79 = .ok (.if_icmp .ne 14, 3) := by decide +kernel
theorem d_X12_told_82 : decode cX12_told 82 = .ok (.iload_n 3, 1) := by decide +kernel
theorem d_X12_told_83 : decode cX12_told 83 = .ok (.aload_n 0, 1) := by decide +kernel
theorem d_X12_told_84 : decode cX12_told 84 = .ok (.iload 4, 2) := by decide +kernel
theorem d_X12_told_86 : decode cX12_told 86 = .ok (.bipush 9, 2) := by decide +kernel
theorem d_X12_told_88 : decode cX12_told 88 = .ok (.invokevirtual 98, 3) := by decide +kernel
theorem d_X12_told_91 : decode cX12_told 91 = .ok (.iand, 1) := by decide +kernel
theorem d_X12_told_92 : decode cX12_told 92 = .ok (.istore_n 3, 1) := by decide +kernel
theorem d_X12_told_93 : decode cX12_told 93 = .ok (.iinc 4 1, 3) := by decide +kernel
theorem d_X12_told_96 : decode cX12_told 96 = .ok (.goto (-61), 3) := by decide +kernel
theorem d_X12_told_99 : decode cX12_told 99 = .ok (.iload_n 3, 1) := by decide +kernel
theorem d_X12_told_100 : decode cX12_told 100 = .ok (.iconst (-1), 1) := by decide +kernel
theorem d_X12_told_101 : decode cX12_told 101 = .ok (.if_icmp .ne 8, 3) := by decide +kernel
theorem d_X12_told_104 : decode cX12_told 104 = .ok (.bipush (-4), 2) := by decide +kernel
theorem d_X12_told_106 : decode cX12_told 106 = .ok (.goto 4, 3) := by decide +kernel
theorem d_X12_told_109 : decode cX12_told 109 = .ok (.iload_n 3, 1) := by decide +kernel
theorem d_X12_told_110 : decode cX12_told 110 = .ok (.ireturn, 1) := by decide +kernel
set_option maxHeartbeats 4000000 in
set_option maxRecDepth 100000 in
theorem t_X12_told_35 {X : XT_x} {G : GT_g} {z : (Mem_m × Int)} (C : Cx_ (K_X12_told) X G) (hR : Rx_ X G (some .int)) (x0 : Nat) (x1 : Int) (o_x1 : ok_i x1) : ∀ (n : Nat) (M : Mem_m) (x3 : Int) (x4 : Int) (o_x3 : ok_i x3) (o_x4 : ok_i x4), f_X12_told_35 G.2.2.2 x0 x1 n M x3 x4 = some z → V_ (K_X12_told) X G (Fq_ X G (Qi_ G z.1 z.2)) M 35 [(0, .ref (G.1 + x0)), (1, iv_i x1), (3, iv_i x3), (4, iv_i x4)] [] := by
  intro n
  induction n with
  | zero => intro M x3 x4 o_x3 o_x4 h; exact absurd h (by simp [f_X12_told_35])
  | succ n ih =>
    intro M x3 x4 o_x3 o_x4 h
    unfold f_X12_told_35 at h
    refine V_iload (j := 3) C d_X12_told_35 rfl ?_
    refine V_aload_n (j := 0) C d_X12_told_37 rfl rfl ?_
    refine V_getR C ck_12 fw_X12_9 d_X12_told_38 h (fun v1 h => ?_)
    refine V_sipush (v := 1062) C d_X12_told_41 rfl ?_
    refine V_iald C d_X12_told_44 (okc rfl) h (fun v2 o2 h => ?_)
    refine V_icmp_ge (tgt := 99) C d_X12_told_45 (by decide) o_x4 o2 h (fun h => ?_) (fun h => ?_)
    · skip
      refine V_aload_n (j := 0) C d_X12_told_48 rfl rfl ?_
      refine V_iload (j := 3) C d_X12_told_49 rfl ?_
      refine V_callVri (K' := K_X12_counts) (a := x0) (ci := 12) (av := [iv_i x4]) (rest := []) yi_X12_counts (by decide) rfl C (yk_X12_counts) l1_X12_111 (by decide) d_X12_told_51 (fun v hv => ct_X12_counts x0 x4 o_x4 hv) rfl rfl (Nat.le_of_ble_eq_true rfl) h (fun v3 o3 h => ?_)
      refine V_if_eq (tgt := 93) C d_X12_told_54 (by decide) o3 h (fun h => ?_) (fun h => ?_)
      · skip
        refine V_iinc (j := 3) (lv' := [(4, iv_i (wr_i (x4 + 1))), (0, .ref (G.1 + x0)), (1, iv_i x1), (3, iv_i x3)]) C d_X12_told_93 rfl (by decide) rfl ?_
        refine V_goto (tgt := 35) C d_X12_told_96 (by decide) ?_
        refine V_lv [1, 2, 3, 0] rfl (ih M x3 (wr_i (x4 + 1)) o_x3 (ok_wr _) h)
      · skip
        refine V_aload_n (j := 0) C d_X12_told_57 rfl rfl ?_
        refine V_iload (j := 3) C d_X12_told_58 rfl ?_
        refine V_bipush (v := 9) C d_X12_told_60 rfl ?_
        refine V_callVri (K' := K_X12_of) (a := x0) (ci := 12) (av := [iv_i x4, iv_i 9]) (rest := []) yi_X12_of (by decide) rfl C (yk_X12_of) l1_X12_98 (by decide) d_X12_told_62 (fun v hv => ct_X12_of x0 x4 9 o_x4 (okc rfl) hv) rfl rfl (Nat.le_of_ble_eq_true rfl) h (fun v4 o4 h => ?_)
        refine V_if_eq (tgt := 93) C d_X12_told_65 (by decide) o4 h (fun h => ?_) (fun h => ?_)
        · skip
          refine V_iinc (j := 3) (lv' := [(4, iv_i (wr_i (x4 + 1))), (0, .ref (G.1 + x0)), (1, iv_i x1), (3, iv_i x3)]) C d_X12_told_93 rfl (by decide) rfl ?_
          refine V_goto (tgt := 35) C d_X12_told_96 (by decide) ?_
          refine V_lv [1, 2, 3, 0] rfl (ih M x3 (wr_i (x4 + 1)) o_x3 (ok_wr _) h)
        · skip
          refine V_aload_n (j := 0) C d_X12_told_68 rfl rfl ?_
          refine V_iload (j := 3) C d_X12_told_69 rfl ?_
          refine V_callVwi (K' := K_X12_notesOf) (a := x0) (ci := 12) (av := [iv_i x4]) (rest := []) yi_X12_notesOf (by decide) rfl C (yk_X12_notesOf) l1_X12_156 (by decide) d_X12_told_71 (fun v hv => ct_X12_notesOf x0 x4 o_x4 hv) rfl rfl (Nat.le_of_ble_eq_true rfl) h (fun z5 o5 h => ?_)
          refine V_iload_n (j := 1) C d_X12_told_74 rfl rfl ?_
          refine V_ishr C d_X12_told_75 ?_
          refine V_iconst C d_X12_told_76 ?_
          refine V_iand C d_X12_told_77 ?_
          refine V_iconst C d_X12_told_78 ?_
          refine V_icmp_ne (tgt := 93) C d_X12_told_79 (by decide) (ok_I _) (okc rfl) h (fun h => ?_) (fun h => ?_)
          · skip
            refine V_iload_n (j := 2) C d_X12_told_82 rfl rfl ?_
            refine V_aload_n (j := 0) C d_X12_told_83 rfl rfl ?_
            refine V_iload (j := 3) C d_X12_told_84 rfl ?_
            refine V_bipush (v := 9) C d_X12_told_86 rfl ?_
            refine V_callVri (K' := K_X12_of) (a := x0) (ci := 12) (av := [iv_i x4, iv_i 9]) (rest := [iv_i x3]) yi_X12_of (by decide) rfl C (yk_X12_of) l1_X12_98 (by decide) d_X12_told_88 (fun v hv => ct_X12_of x0 x4 9 o_x4 (okc rfl) hv) rfl rfl (Nat.le_of_ble_eq_true rfl) h (fun v6 o6 h => ?_)
            refine V_iand C d_X12_told_91 ?_
            refine V_istore_n (lv' := [(3, iv_i (an_i x3 v6)), (0, .ref (G.1 + x0)), (1, iv_i x1), (4, iv_i x4)]) C d_X12_told_92 rfl (by decide) rfl ?_
            refine V_iinc (j := 3) (lv' := [(4, iv_i (wr_i (x4 + 1))), (3, iv_i (an_i x3 v6)), (0, .ref (G.1 + x0)), (1, iv_i x1)]) C d_X12_told_93 rfl (by decide) rfl ?_
            refine V_goto (tgt := 35) C d_X12_told_96 (by decide) ?_
            refine V_lv [2, 3, 1, 0] rfl (ih z5.1 (an_i x3 v6) (wr_i (x4 + 1)) (ok_I _) (ok_wr _) h)
          · skip
            refine V_iinc (j := 3) (lv' := [(4, iv_i (wr_i (x4 + 1))), (0, .ref (G.1 + x0)), (1, iv_i x1), (3, iv_i x3)]) C d_X12_told_93 rfl (by decide) rfl ?_
            refine V_goto (tgt := 35) C d_X12_told_96 (by decide) ?_
            refine V_lv [1, 2, 3, 0] rfl (ih z5.1 x3 (wr_i (x4 + 1)) o_x3 (ok_wr _) h)
    · skip
      refine V_iload_n (j := 2) C d_X12_told_99 rfl rfl ?_
      refine V_iconst C d_X12_told_100 ?_
      refine V_icmp_ne (tgt := 109) C d_X12_told_101 (by decide) o_x3 (okc rfl) h (fun h => ?_) (fun h => ?_)
      · skip
        refine V_bipush (v := (-4)) C d_X12_told_104 rfl ?_
        refine V_goto (tgt := 110) C d_X12_told_106 (by decide) ?_
        exact V_iret_w C hR d_X12_told_110 (okc rfl) h
      · skip
        refine V_iload_n (j := 2) C d_X12_told_109 rfl rfl ?_
        exact V_iret_w C hR d_X12_told_110 o_x3 h
set_option maxHeartbeats 4000000 in
set_option maxRecDepth 100000 in
theorem t_X12_told {X : XT_x} {G : GT_g} {M : Mem_m} {z : (Mem_m × Int)} (C : Cx_ (K_X12_told) X G) (hR : Rx_ X G (some .int)) (x0 : Nat) (x1 : Int) (x2 : Int) (o_x1 : ok_i x1) (o_x2 : ok_i x2) (h : f_X12_told G.2.2.2 M x0 x1 x2 = some z) : V_ (K_X12_told) X G (Fq_ X G (Qi_ G z.1 z.2)) M 0 [(0, .ref (G.1 + x0)), (1, iv_i x1), (2, iv_i x2)] [] := by
  unfold f_X12_told at h
  refine V_aload_n (j := 0) C d_X12_told_0 rfl rfl ?_
  refine V_iload_n (j := 1) C d_X12_told_1 rfl rfl ?_
  refine V_callVri (K' := K_X12_isNote) (a := x0) (ci := 12) (av := [iv_i x1]) (rest := []) yi_X12_isNote (by decide) rfl C (yk_X12_isNote) l1_X12_130 (by decide) d_X12_told_2 (fun v hv => ct_X12_isNote x0 x1 o_x1 hv) rfl rfl (Nat.le_of_ble_eq_true rfl) h (fun v1 o1 h => ?_)
  refine V_if_eq (tgt := 18) C d_X12_told_5 (by decide) o1 h (fun h => ?_) (fun h => ?_)
  · skip
    refine V_iconst C d_X12_told_18 ?_
    exact V_iret_w C hR d_X12_told_19 (okc rfl) h
  · skip
    refine V_iload_n (j := 2) C d_X12_told_8 rfl rfl ?_
    refine V_i2l C d_X12_told_9 o_x2 ?_
    refine V_lconst0 C d_X12_told_10 ?_
    refine V_lconst1 C d_X12_told_11 ?_
    refine V_callSri (K' := K_X12_isIn) (av := [jv_i x2, jv_i 0, jv_i 1]) (rest := []) ys_X12_isIn C (yk_X12_isIn) l1_X12_69 (by decide) d_X12_told_12 (fun v hv => ct_X12_isIn x2 0 1 o_x2 (okc rfl) (okc rfl) hv) rfl rfl (Nat.le_of_ble_eq_true rfl) h (fun v2 o2 h => ?_)
    refine V_if_ne (tgt := 20) C d_X12_told_15 (by decide) o2 h (fun h => ?_) (fun h => ?_)
    · skip
      refine V_iconst C d_X12_told_18 ?_
      exact V_iret_w C hR d_X12_told_19 (okc rfl) h
    · skip
      refine V_iload_n (j := 2) C d_X12_told_20 rfl rfl ?_
      refine V_if_ne (tgt := 30) C d_X12_told_21 (by decide) o_x2 h (fun h => ?_) (fun h => ?_)
      · skip
        refine V_aload_n (j := 0) C d_X12_told_24 rfl rfl ?_
        refine V_iload_n (j := 1) C d_X12_told_25 rfl rfl ?_
        refine V_callVri (K' := K_X12_lengthOf) (a := x0) (ci := 12) (av := [iv_i x1]) (rest := []) yi_X12_lengthOf (by decide) rfl C (yk_X12_lengthOf) l1_X12_153 (by decide) d_X12_told_26 (fun v hv => ct_X12_lengthOf x0 x1 o_x1 hv) rfl rfl (Nat.le_of_ble_eq_true rfl) h (fun v3 o3 h => ?_)
        exact V_iret_w C hR d_X12_told_29 o3 h
      · skip
        refine V_iconst C d_X12_told_30 ?_
        refine V_istore_n (lv' := [(3, iv_i (-1)), (0, .ref (G.1 + x0)), (1, iv_i x1), (2, iv_i x2)]) C d_X12_told_31 rfl (by decide) rfl ?_
        refine V_iconst C d_X12_told_32 ?_
        refine V_istore (lv' := [(4, iv_i 0), (3, iv_i (-1)), (0, .ref (G.1 + x0)), (1, iv_i x1), (2, iv_i x2)]) C d_X12_told_33 (by decide) rfl ?_
        refine V_lv [2, 3, 1, 0] rfl (t_X12_told_35 C hR x0 x1 o_x1 FU_ M (-1) 0 (okc rfl) (okc rfl) h)
set_option maxHeartbeats 4000000 in
set_option maxRecDepth 100000 in
theorem ct_X12_told {l : Launch} {G : GT_g} {M : Mem_m} (x0 : Nat) (x1 : Int) (x2 : Int) (o_x1 : ok_i x1) (o_x2 : ok_i x2) {z : (Mem_m × Int)} (h : f_X12_told G.2.2.2 M x0 x1 x2 = some z) : MI_ l yX12_told K_X12_told (some .int) G M [.ref (G.1 + x0), iv_i x1, iv_i x2] z.1 z.2 :=
  met_of (by decide +kernel) rfl (Nat.le_of_ble_eq_true rfl) (fun X hl C hR => by subst hl; exact t_X12_told C hR x0 x1 x2 o_x1 o_x2 h)
theorem d_X12_listed_0 : decode cX12_listed 0 = .ok (.iconst 0, 1) := by decide +kernel
theorem d_X12_listed_1 : decode cX12_listed 1 = .ok (.istore_n 1, 1) := by decide +kernel
theorem d_X12_listed_2 : decode cX12_listed 2 = .ok (.iconst 0, 1) := by decide +kernel
theorem d_X12_listed_3 : decode cX12_listed 3 = .ok (.istore_n 2, 1) := by decide +kernel
theorem d_X12_listed_4 : decode cX12_listed 4 = .ok (.iload_n 2, 1) := by decide +kernel
theorem d_X12_listed_5 : decode cX12_listed 5 = .ok (.aload_n 0, 1) := by decide +kernel
theorem d_X12_listed_6 : decode cX12_listed 6 = .ok (.getfield 9, 3) := by decide +kernel
theorem d_X12_listed_9 : decode cX12_listed 9 = .ok (.sipush 1063, 3) := by decide +kernel
theorem d_X12_listed_12 : decode cX12_listed 12 = .ok (.iaload, 1) := by decide +kernel
theorem d_X12_listed_13 : decode cX12_listed 13 = .ok (.if_icmp .ge 32, 3) := by decide +kernel
theorem d_X12_listed_16 : decode cX12_listed 16 = .ok (.iload_n 1, 1) := by decide +kernel
theorem d_X12_listed_17 : decode cX12_listed 17 = .ok (.aload_n 0, 1) := by decide +kernel
theorem d_X12_listed_18 : decode cX12_listed 18 = .ok (.iload_n 2, 1) := by decide +kernel
theorem d_X12_listed_19 : decode cX12_listed 19 = .ok (.bipush 6, 2) := by decide +kernel
theorem d_X12_listed_21 : decode cX12_listed 21 = .ok (.invokevirtual 133, 3) := by decide +kernel
theorem d_X12_listed_24 : decode cX12_listed 24 = .ok (.iconst 1, 1) := by decide +kernel
theorem d_X12_listed_25 : decode cX12_listed 25 = .ok (.if_icmp .ne 11, 3) := by decide +kernel
theorem d_X12_listed_28 : decode cX12_listed 28 = .ok (.aload_n 0, 1) := by decide +kernel
theorem d_X12_listed_29 : decode cX12_listed 29 = .ok (.iload_n 2, 1) := by decide +kernel
theorem d_X12_listed_30 : decode cX12_listed 30 = .ok (.invokevirtual 153, 3) := by decide +kernel
theorem d_X12_listed_33 : decode cX12_listed 33 = .ok (.goto 4, 3) := by decide +kernel
theorem d_X12_listed_36 : decode cX12_listed 36 = .ok (.iconst 0, 1) := by decide +kernel
theorem d_X12_listed_37 : decode cX12_listed 37 = .ok (.iadd, 1) := by decide +kernel
theorem d_X12_listed_38 : decode cX12_listed 38 = .ok (.istore_n 1, 1) := by decide +kernel
theorem d_X12_listed_39 : decode cX12_listed 39 = .ok (.iinc 2 1, 3) := by decide +kernel
theorem d_X12_listed_42 : decode cX12_listed 42 = .ok (.goto (-38), 3) := by decide +kernel
theorem d_X12_listed_45 : decode cX12_listed 45 = .ok (.iconst 0, 1) := by decide +kernel
theorem d_X12_listed_46 : decode cX12_listed 46 = .ok (.istore_n 2, 1) := by decide +kernel
theorem d_X12_listed_47 : decode cX12_listed 47 = .ok (.iload_n 2, 1) := by decide +kernel
theorem d_X12_listed_48 : decode cX12_listed 48 = .ok (.aload_n 0, 1) := by decide +kernel
theorem d_X12_listed_49 : decode cX12_listed 49 = .ok (.getfield 9, 3) := by decide +kernel
theorem d_X12_listed_52 : decode cX12_listed 52 = .ok (.sipush 1062, 3) := by decide +kernel
theorem d_X12_listed_55 : decode cX12_listed 55 = .ok (.iaload, 1) := by decide +kernel
theorem d_X12_listed_56 : decode cX12_listed 56 = .ok (.if_icmp .ge 34, 3) := by decide +kernel
theorem d_X12_listed_59 : decode cX12_listed 59 = .ok (.aload_n 0, 1) := by decide +kernel
theorem d_X12_listed_60 : decode cX12_listed 60 = .ok (.iload_n 2, 1) := by decide +kernel
theorem d_X12_listed_61 : decode cX12_listed 61 = .ok (.invokevirtual 111, 3) := by decide +kernel
theorem d_X12_listed_64 : decode cX12_listed 64 = .ok (.ifCond .ne 6, 3) := by decide +kernel
theorem d_X12_listed_67 : decode cX12_listed 67 = .ok (.goto 17, 3) := by decide +kernel
theorem d_X12_listed_70 : decode cX12_listed 70 = .ok (.aload_n 0, 1) := by decide +kernel
theorem d_X12_listed_71 : decode cX12_listed 71 = .ok (.iload_n 2, 1) := by decide +kernel
theorem d_X12_listed_72 : decode cX12_listed 72 = .ok (.invokevirtual 146, 3) := by decide +kernel
theorem d_X12_listed_75 : decode cX12_listed 75 = .ok (.iload_n 1, 1) := by decide +kernel
theorem d_X12_listed_76 : decode cX12_listed 76 = .ok (.aload_n 0, 1) := by decide +kernel
theorem d_X12_listed_77 : decode cX12_listed 77 = .ok (.getfield 34, 3) := by decide +kernel
theorem d_X12_listed_80 : decode cX12_listed 80 = .ok (.iconst 0, 1) := by decide +kernel
theorem d_X12_listed_81 : decode cX12_listed 81 = .ok (.iaload, 1) := by decide +kernel
theorem d_X12_listed_82 : decode cX12_listed 82 = .ok (.iadd, 1) := by decide +kernel
theorem d_X12_listed_83 : decode cX12_listed 83 = .ok (.istore_n 1, 1) := by decide +kernel
theorem d_X12_listed_84 : decode cX12_listed 84 = .ok (.iinc 2 1, 3) := by decide +kernel
theorem d_X12_listed_87 : decode cX12_listed 87 = .ok (.goto (-40), 3) := by decide +kernel
theorem d_X12_listed_90 : decode cX12_listed 90 = .ok (.iload_n 1, 1) := by decide +kernel
theorem d_X12_listed_91 : decode cX12_listed 91 = .ok (.ireturn, 1) := by decide +kernel
set_option maxHeartbeats 4000000 in
set_option maxRecDepth 100000 in
theorem t_X12_listed_47 {X : XT_x} {G : GT_g} {z : (Mem_m × Int)} (C : Cx_ (K_X12_listed) X G) (hR : Rx_ X G (some .int)) (x0 : Nat) : ∀ (n : Nat) (M : Mem_m) (x1 : Int) (x2 : Int) (o_x1 : ok_i x1) (o_x2 : ok_i x2), f_X12_listed_47 G.2.2.2 x0 n M x1 x2 = some z → V_ (K_X12_listed) X G (Fq_ X G (Qi_ G z.1 z.2)) M 47 [(0, .ref (G.1 + x0)), (1, iv_i x1), (2, iv_i x2)] [] := by
  intro n
  induction n with
  | zero => intro M x1 x2 o_x1 o_x2 h; exact absurd h (by simp [f_X12_listed_47])
  | succ n ih =>
    intro M x1 x2 o_x1 o_x2 h
    unfold f_X12_listed_47 at h
    refine V_iload_n (j := 2) C d_X12_listed_47 rfl rfl ?_
    refine V_aload_n (j := 0) C d_X12_listed_48 rfl rfl ?_
    refine V_getR C ck_12 fw_X12_9 d_X12_listed_49 h (fun v1 h => ?_)
    refine V_sipush (v := 1062) C d_X12_listed_52 rfl ?_
    refine V_iald C d_X12_listed_55 (okc rfl) h (fun v2 o2 h => ?_)
    refine V_icmp_ge (tgt := 90) C d_X12_listed_56 (by decide) o_x2 o2 h (fun h => ?_) (fun h => ?_)
    · skip
      refine V_aload_n (j := 0) C d_X12_listed_59 rfl rfl ?_
      refine V_iload_n (j := 2) C d_X12_listed_60 rfl rfl ?_
      refine V_callVri (K' := K_X12_counts) (a := x0) (ci := 12) (av := [iv_i x2]) (rest := []) yi_X12_counts (by decide) rfl C (yk_X12_counts) l1_X12_111 (by decide) d_X12_listed_61 (fun v hv => ct_X12_counts x0 x2 o_x2 hv) rfl rfl (Nat.le_of_ble_eq_true rfl) h (fun v3 o3 h => ?_)
      refine V_if_ne (tgt := 70) C d_X12_listed_64 (by decide) o3 h (fun h => ?_) (fun h => ?_)
      · skip
        refine V_goto (tgt := 84) C d_X12_listed_67 (by decide) ?_
        refine V_iinc (j := 2) (lv' := [(2, iv_i (wr_i (x2 + 1))), (0, .ref (G.1 + x0)), (1, iv_i x1)]) C d_X12_listed_84 rfl (by decide) rfl ?_
        refine V_goto (tgt := 47) C d_X12_listed_87 (by decide) ?_
        refine V_lv [1, 2, 0] rfl (ih M x1 (wr_i (x2 + 1)) o_x1 (ok_wr _) h)
      · skip
        refine V_aload_n (j := 0) C d_X12_listed_70 rfl rfl ?_
        refine V_iload_n (j := 2) C d_X12_listed_71 rfl rfl ?_
        refine V_callVwv (K' := K_X12_cuts) (a := x0) (ci := 12) (av := [iv_i x2]) (rest := []) yi_X12_cuts (by decide) rfl C (yk_X12_cuts) l1_X12_146 (by decide) d_X12_listed_72 (fun v hv => ct_X12_cuts x0 x2 o_x2 hv) rfl rfl (Nat.le_of_ble_eq_true rfl) h (fun M4 h => ?_)
        refine V_iload_n (j := 1) C d_X12_listed_75 rfl rfl ?_
        refine V_aload_n (j := 0) C d_X12_listed_76 rfl rfl ?_
        refine V_getR C ck_12 fw_X12_34 d_X12_listed_77 h (fun v5 h => ?_)
        refine V_iconst C d_X12_listed_80 ?_
        refine V_iald C d_X12_listed_81 (okc rfl) h (fun v6 o6 h => ?_)
        refine V_iadd C d_X12_listed_82 ?_
        refine V_istore_n (lv' := [(1, iv_i (wr_i (x1 + v6))), (0, .ref (G.1 + x0)), (2, iv_i x2)]) C d_X12_listed_83 rfl (by decide) rfl ?_
        refine V_iinc (j := 2) (lv' := [(2, iv_i (wr_i (x2 + 1))), (1, iv_i (wr_i (x1 + v6))), (0, .ref (G.1 + x0))]) C d_X12_listed_84 rfl (by decide) rfl ?_
        refine V_goto (tgt := 47) C d_X12_listed_87 (by decide) ?_
        refine V_lv [2, 1, 0] rfl (ih M4 (wr_i (x1 + v6)) (wr_i (x2 + 1)) (ok_wr _) (ok_wr _) h)
    · skip
      refine V_iload_n (j := 1) C d_X12_listed_90 rfl rfl ?_
      exact V_iret_w C hR d_X12_listed_91 o_x1 h
set_option maxHeartbeats 4000000 in
set_option maxRecDepth 100000 in
theorem t_X12_listed_4 {X : XT_x} {G : GT_g} {z : (Mem_m × Int)} (C : Cx_ (K_X12_listed) X G) (hR : Rx_ X G (some .int)) (M : Mem_m) (x0 : Nat) : ∀ (n : Nat) (x1 : Int) (x2 : Int) (o_x1 : ok_i x1) (o_x2 : ok_i x2), f_X12_listed_4 G.2.2.2 M x0 n x1 x2 = some z → V_ (K_X12_listed) X G (Fq_ X G (Qi_ G z.1 z.2)) M 4 [(0, .ref (G.1 + x0)), (1, iv_i x1), (2, iv_i x2)] [] := by
  intro n
  induction n with
  | zero => intro x1 x2 o_x1 o_x2 h; exact absurd h (by simp [f_X12_listed_4])
  | succ n ih =>
    intro x1 x2 o_x1 o_x2 h
    unfold f_X12_listed_4 at h
    refine V_iload_n (j := 2) C d_X12_listed_4 rfl rfl ?_
    refine V_aload_n (j := 0) C d_X12_listed_5 rfl rfl ?_
    refine V_getR C ck_12 fw_X12_9 d_X12_listed_6 h (fun v1 h => ?_)
    refine V_sipush (v := 1063) C d_X12_listed_9 rfl ?_
    refine V_iald C d_X12_listed_12 (okc rfl) h (fun v2 o2 h => ?_)
    refine V_icmp_ge (tgt := 45) C d_X12_listed_13 (by decide) o_x2 o2 h (fun h => ?_) (fun h => ?_)
    · skip
      refine V_iload_n (j := 1) C d_X12_listed_16 rfl rfl ?_
      refine V_aload_n (j := 0) C d_X12_listed_17 rfl rfl ?_
      refine V_iload_n (j := 2) C d_X12_listed_18 rfl rfl ?_
      refine V_bipush (v := 6) C d_X12_listed_19 rfl ?_
      refine V_callVri (K' := K_X12_noteOf) (a := x0) (ci := 12) (av := [iv_i x2, iv_i 6]) (rest := [iv_i x1]) yi_X12_noteOf (by decide) rfl C (yk_X12_noteOf) l1_X12_133 (by decide) d_X12_listed_21 (fun v hv => ct_X12_noteOf x0 x2 6 o_x2 (okc rfl) hv) rfl rfl (Nat.le_of_ble_eq_true rfl) h (fun v3 o3 h => ?_)
      refine V_iconst C d_X12_listed_24 ?_
      refine V_icmp_ne (tgt := 36) C d_X12_listed_25 (by decide) o3 (okc rfl) h (fun h => ?_) (fun h => ?_)
      · skip
        refine V_aload_n (j := 0) C d_X12_listed_28 rfl rfl ?_
        refine V_iload_n (j := 2) C d_X12_listed_29 rfl rfl ?_
        refine V_callVri (K' := K_X12_lengthOf) (a := x0) (ci := 12) (av := [iv_i x2]) (rest := [iv_i x1]) yi_X12_lengthOf (by decide) rfl C (yk_X12_lengthOf) l1_X12_153 (by decide) d_X12_listed_30 (fun v hv => ct_X12_lengthOf x0 x2 o_x2 hv) rfl rfl (Nat.le_of_ble_eq_true rfl) h (fun v4 o4 h => ?_)
        refine V_goto (tgt := 37) C d_X12_listed_33 (by decide) ?_
        refine V_iadd C d_X12_listed_37 ?_
        refine V_istore_n (lv' := [(1, iv_i (wr_i (x1 + v4))), (0, .ref (G.1 + x0)), (2, iv_i x2)]) C d_X12_listed_38 rfl (by decide) rfl ?_
        refine V_iinc (j := 2) (lv' := [(2, iv_i (wr_i (x2 + 1))), (1, iv_i (wr_i (x1 + v4))), (0, .ref (G.1 + x0))]) C d_X12_listed_39 rfl (by decide) rfl ?_
        refine V_goto (tgt := 4) C d_X12_listed_42 (by decide) ?_
        refine V_lv [2, 1, 0] rfl (ih (wr_i (x1 + v4)) (wr_i (x2 + 1)) (ok_wr _) (ok_wr _) h)
      · skip
        refine V_iconst C d_X12_listed_36 ?_
        refine V_iadd C d_X12_listed_37 ?_
        refine V_istore_n (lv' := [(1, iv_i (wr_i (x1 + 0))), (0, .ref (G.1 + x0)), (2, iv_i x2)]) C d_X12_listed_38 rfl (by decide) rfl ?_
        refine V_iinc (j := 2) (lv' := [(2, iv_i (wr_i (x2 + 1))), (1, iv_i (wr_i (x1 + 0))), (0, .ref (G.1 + x0))]) C d_X12_listed_39 rfl (by decide) rfl ?_
        refine V_goto (tgt := 4) C d_X12_listed_42 (by decide) ?_
        refine V_lv [2, 1, 0] rfl (ih (wr_i (x1 + 0)) (wr_i (x2 + 1)) (ok_wr _) (ok_wr _) h)
    · skip
      refine V_iconst C d_X12_listed_45 ?_
      refine V_istore_n (lv' := [(2, iv_i 0), (0, .ref (G.1 + x0)), (1, iv_i x1)]) C d_X12_listed_46 rfl (by decide) rfl ?_
      refine V_lv [1, 2, 0] rfl (t_X12_listed_47 C hR x0 FU_ M x1 0 o_x1 (okc rfl) h)
set_option maxHeartbeats 4000000 in
set_option maxRecDepth 100000 in
theorem t_X12_listed {X : XT_x} {G : GT_g} {M : Mem_m} {z : (Mem_m × Int)} (C : Cx_ (K_X12_listed) X G) (hR : Rx_ X G (some .int)) (x0 : Nat)  (h : f_X12_listed G.2.2.2 M x0 = some z) : V_ (K_X12_listed) X G (Fq_ X G (Qi_ G z.1 z.2)) M 0 [(0, .ref (G.1 + x0))] [] := by
  unfold f_X12_listed at h
  refine V_iconst C d_X12_listed_0 ?_
  refine V_istore_n (lv' := [(1, iv_i 0), (0, .ref (G.1 + x0))]) C d_X12_listed_1 rfl (by decide) rfl ?_
  refine V_iconst C d_X12_listed_2 ?_
  refine V_istore_n (lv' := [(2, iv_i 0), (1, iv_i 0), (0, .ref (G.1 + x0))]) C d_X12_listed_3 rfl (by decide) rfl ?_
  refine V_lv [2, 1, 0] rfl (t_X12_listed_4 C hR M x0 FU_ 0 0 (okc rfl) (okc rfl) h)
set_option maxHeartbeats 4000000 in
set_option maxRecDepth 100000 in
theorem ct_X12_listed {l : Launch} {G : GT_g} {M : Mem_m} (x0 : Nat)  {z : (Mem_m × Int)} (h : f_X12_listed G.2.2.2 M x0 = some z) : MI_ l yX12_listed K_X12_listed (some .int) G M [.ref (G.1 + x0)] z.1 z.2 :=
  met_of (by decide +kernel) rfl (Nat.le_of_ble_eq_true rfl) (fun X hl C hR => by subst hl; exact t_X12_listed C hR x0  h)
