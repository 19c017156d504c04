theorem d_X12_findDeep_0 : decode cX12_findDeep 0 = .ok (.iconst 1, 1) := by decide +kernel
theorem d_X12_findDeep_1 : decode cX12_findDeep 1 = .ok (.istore_n 2, 1) := by decide +kernel
theorem d_X12_findDeep_2 : decode cX12_findDeep 2 = .ok (.aload_n 0, 1) := by decide +kernel
theorem d_X12_findDeep_3 : decode cX12_findDeep 3 = .ok (.iconst 1, 1) := by decide +kernel
theorem d_X12_findDeep_4 : decode cX12_findDeep 4 = .ok (.putfield 206, 3) := by decide +kernel
theorem d_X12_findDeep_7 : decode cX12_findDeep 7 = .ok (.aload_n 0, 1) := by decide +kernel
theorem d_X12_findDeep_8 : decode cX12_findDeep 8 = .ok (.getfield 206, 3) := by decide +kernel
theorem d_X12_findDeep_11 : decode cX12_findDeep 11 = .ok (.iconst 4, 1) := by decide +kernel
theorem d_X12_findDeep_12 : decode cX12_findDeep 12 = .ok (.if_icmp .ge 64, 3) := by decide +kernel
theorem d_X12_findDeep_15 : decode cX12_findDeep 15 = .ok (.iload_n 2, 1) := by decide +kernel
theorem d_X12_findDeep_16 : decode cX12_findDeep 16 = .ok (.bipush 16, 2) := by decide +kernel
theorem d_X12_findDeep_18 : decode cX12_findDeep 18 = .ok (.imul, 1) := by decide +kernel
theorem d_X12_findDeep_19 : decode cX12_findDeep 19 = .ok (.istore_n 2, 1) := by decide +kernel
theorem d_X12_findDeep_20 : decode cX12_findDeep 20 = .ok (.aload_n 0, 1) := by decide +kernel
theorem d_X12_findDeep_21 : decode cX12_findDeep 21 = .ok (.iconst 0, 1) := by decide +kernel
theorem d_X12_findDeep_22 : decode cX12_findDeep 22 = .ok (.putfield 209, 3) := by decide +kernel
theorem d_X12_findDeep_25 : decode cX12_findDeep 25 = .ok (.aload_n 0, 1) := by decide +kernel
theorem d_X12_findDeep_26 : decode cX12_findDeep 26 = .ok (.getfield 209, 3) := by decide +kernel
theorem d_X12_findDeep_29 : decode cX12_findDeep 29 = .ok (.iload_n 2, 1) := by decide +kernel
theorem d_X12_findDeep_30 : decode cX12_findDeep 30 = .ok (.if_icmp .ge 33, 3) := by decide +kernel
theorem d_X12_findDeep_33 : decode cX12_findDeep 33 = .ok (.aload_n 0, 1) := by decide +kernel
theorem d_X12_findDeep_34 : decode cX12_findDeep 34 = .ok (.iload_n 1, 1) := by decide +kernel
theorem d_X12_findDeep_35 : decode cX12_findDeep 35 = .ok (.aload_n 0, 1) := by decide +kernel
theorem d_X12_findDeep_36 : decode cX12_findDeep 36 = .ok (.getfield 206, 3) := by decide +kernel
theorem d_X12_findDeep_39 : decode cX12_findDeep 39 = .ok (.aload_n 0, 1) := by decide +kernel
theorem d_X12_findDeep_40 : decode cX12_findDeep 40 = .ok (.getfield 209, 3) := by decide +kernel
theorem d_X12_findDeep_43 : decode cX12_findDeep 43 = .ok (.invokevirtual 212, 3) := by decide +kernel
theorem d_X12_findDeep_46 : decode cX12_findDeep 46 = .ok (.ifCond .eq 4, 3) := by decide +kernel
theorem d_X12_findDeep_49 : decode cX12_findDeep 49 = .ok (.return_, 1) := by decide +kernel
theorem d_X12_findDeep_50 : decode cX12_findDeep 50 = .ok (.aload_n 0, 1) := by decide +kernel
theorem d_X12_findDeep_51 : decode cX12_findDeep 51 = .ok (.dup, 1) := by decide +kernel
theorem d_X12_findDeep_52 : decode cX12_findDeep 52 = .ok (.getfield 209, 3) := by decide +kernel
theorem d_X12_findDeep_55 : decode cX12_findDeep 55 = .ok (.iconst 1, 1) := by decide +kernel
theorem d_X12_findDeep_56 : decode cX12_findDeep 56 = .ok (.iadd, 1) := by decide +kernel
theorem d_X12_findDeep_57 : decode cX12_findDeep 57 = .ok (.putfield 209, 3) := by decide +kernel
theorem d_X12_findDeep_60 : decode cX12_findDeep 60 = .ok (.goto (-35), 3) := by decide +kernel
theorem d_X12_findDeep_63 : decode cX12_findDeep 63 = .ok (.aload_n 0, 1) := by decide +kernel
theorem d_X12_findDeep_64 : decode cX12_findDeep 64 = .ok (.dup, 1) := by decide +kernel
theorem d_X12_findDeep_65 : decode cX12_findDeep 65 = .ok (.getfield 206, 3) := by decide +kernel
theorem d_X12_findDeep_68 : decode cX12_findDeep 68 = .ok (.iconst 1, 1) := by decide +kernel
theorem d_X12_findDeep_69 : decode cX12_findDeep 69 = .ok (.iadd, 1) := by decide +kernel
theorem d_X12_findDeep_70 : decode cX12_findDeep 70 = .ok (.putfield 206, 3) := by decide +kernel
theorem d_X12_findDeep_73 : decode cX12_findDeep 73 = .ok (.goto (-66), 3) := by decide +kernel
theorem d_X12_findDeep_76 : decode cX12_findDeep 76 = .ok (.aload_n 0, 1) := by decide +kernel
theorem d_X12_findDeep_77 : decode cX12_findDeep 77 = .ok (.iconst 0, 1) := by decide +kernel
theorem d_X12_findDeep_78 : decode cX12_findDeep 78 = .ok (.putfield 206, 3) := by decide +kernel
theorem d_X12_findDeep_81 : decode cX12_findDeep 81 = .ok (.return_, 1) := by decide +kernel
set_option maxHeartbeats 4000000 in
set_option maxRecDepth 100000 in
theorem t_X12_findDeep_25 {X : XT_x} {G : GT_g} {z : Mem_m} (C : Cx_ (K_X12_findDeep) X G) (hR : Rx_ X G none) (x0 : Nat) (x1 : Int) (x2 : Int) (o_x1 : ok_i x1) (o_x2 : ok_i x2) (k_7 : Mem_m → Int → Option Mem_m) (hk_7 : ∀ (M : Mem_m) (x2 : Int) (o_x2 : ok_i x2), k_7 M x2 = some z → V_ (K_X12_findDeep) X G (Fq_ X G (Qv_ G z)) M 7 [(0, .ref (G.1 + x0)), (1, iv_i x1), (2, iv_i x2)] []) : ∀ (n : Nat) (M : Mem_m), f_X12_findDeep_25 G.2.2.2 k_7 x0 x1 x2 n M = some z → V_ (K_X12_findDeep) X G (Fq_ X G (Qv_ G z)) M 25 [(0, .ref (G.1 + x0)), (1, iv_i x1), (2, iv_i x2)] [] := by
  intro n
  induction n with
  | zero => intro M h; exact absurd h (by simp [f_X12_findDeep_25])
  | succ n ih =>
    intro M h
    unfold f_X12_findDeep_25 at h
    refine V_aload_n (j := 0) C d_X12_findDeep_25 rfl rfl ?_
    refine V_getI C ck_12 fw_X12_209 d_X12_findDeep_26 h (fun v1 o1 h => ?_)
    refine V_iload_n (j := 2) C d_X12_findDeep_29 rfl rfl ?_
    refine V_icmp_ge (tgt := 63) C d_X12_findDeep_30 (by decide) o1 o_x2 h (fun h => ?_) (fun h => ?_)
    · skip
      refine V_aload_n (j := 0) C d_X12_findDeep_33 rfl rfl ?_
      refine V_iload_n (j := 1) C d_X12_findDeep_34 rfl rfl ?_
      refine V_aload_n (j := 0) C d_X12_findDeep_35 rfl rfl ?_
      refine V_getI C ck_12 fw_X12_206 d_X12_findDeep_36 h (fun v2 o2 h => ?_)
      refine V_aload_n (j := 0) C d_X12_findDeep_39 rfl rfl ?_
      refine V_getI C ck_12 fw_X12_209 d_X12_findDeep_40 h (fun v3 o3 h => ?_)
      refine V_callVwi (K' := K_X12_isHeard) (a := x0) (ci := 12) (av := [iv_i x1, iv_i v2, iv_i v3]) (rest := []) yi_X12_isHeard (by decide) rfl C (yk_X12_isHeard) l1_X12_212 (by decide) d_X12_findDeep_43 (fun v hv => ct_X12_isHeard x0 x1 v2 v3 o_x1 o2 o3 hv) rfl rfl (Nat.le_of_ble_eq_true rfl) h (fun z4 o4 h => ?_)
      refine V_if_eq (tgt := 50) C d_X12_findDeep_46 (by decide) o4 h (fun h => ?_) (fun h => ?_)
      · skip
        refine V_aload_n (j := 0) C d_X12_findDeep_50 rfl rfl ?_
        refine V_dup C d_X12_findDeep_51 rfl ?_
        refine V_getI C ck_12 fw_X12_209 d_X12_findDeep_52 h (fun v5 o5 h => ?_)
        refine V_iconst C d_X12_findDeep_55 ?_
        refine V_iadd C d_X12_findDeep_56 ?_
        refine V_putI C ck_12 fw_X12_209 fp_12_22 d_X12_findDeep_57 (ok_wr _) h (fun M6 h => ?_)
        refine V_goto (tgt := 25) C d_X12_findDeep_60 (by decide) ?_
        refine V_lv [0, 1, 2] rfl (ih M6 h)
      · skip
        exact V_vret C hR d_X12_findDeep_49 (Option.some.inj h)
    · skip
      refine V_aload_n (j := 0) C d_X12_findDeep_63 rfl rfl ?_
      refine V_dup C d_X12_findDeep_64 rfl ?_
      refine V_getI C ck_12 fw_X12_206 d_X12_findDeep_65 h (fun v7 o7 h => ?_)
      refine V_iconst C d_X12_findDeep_68 ?_
      refine V_iadd C d_X12_findDeep_69 ?_
      refine V_putI C ck_12 fw_X12_206 fp_12_21 d_X12_findDeep_70 (ok_wr _) h (fun M8 h => ?_)
      refine V_goto (tgt := 7) C d_X12_findDeep_73 (by decide) ?_
      refine V_lv [0, 1, 2] rfl (hk_7 M8 x2 o_x2 h)
set_option maxHeartbeats 4000000 in
set_option maxRecDepth 100000 in
theorem t_X12_findDeep_7 {X : XT_x} {G : GT_g} {z : Mem_m} (C : Cx_ (K_X12_findDeep) X G) (hR : Rx_ X G none) (x0 : Nat) (x1 : Int) (o_x1 : ok_i x1) : ∀ (n : Nat) (M : Mem_m) (x2 : Int) (o_x2 : ok_i x2), f_X12_findDeep_7 G.2.2.2 x0 x1 n M x2 = some z → V_ (K_X12_findDeep) X G (Fq_ X G (Qv_ G z)) M 7 [(0, .ref (G.1 + x0)), (1, iv_i x1), (2, iv_i x2)] [] := by
  intro n
  induction n with
  | zero => intro M x2 o_x2 h; exact absurd h (by simp [f_X12_findDeep_7])
  | succ n ih =>
    intro M x2 o_x2 h
    unfold f_X12_findDeep_7 at h
    refine V_aload_n (j := 0) C d_X12_findDeep_7 rfl rfl ?_
    refine V_getI C ck_12 fw_X12_206 d_X12_findDeep_8 h (fun v1 o1 h => ?_)
    refine V_iconst C d_X12_findDeep_11 ?_
    refine V_icmp_ge (tgt := 76) C d_X12_findDeep_12 (by decide) o1 (okc rfl) h (fun h => ?_) (fun h => ?_)
    · skip
      refine V_iload_n (j := 2) C d_X12_findDeep_15 rfl rfl ?_
      refine V_bipush (v := 16) C d_X12_findDeep_16 rfl ?_
      refine V_imul C d_X12_findDeep_18 ?_
      refine V_istore_n (lv' := [(2, iv_i (wr_i (x2 * 16))), (0, .ref (G.1 + x0)), (1, iv_i x1)]) C d_X12_findDeep_19 rfl (by decide) rfl ?_
      refine V_aload_n (j := 1) C d_X12_findDeep_20 rfl rfl ?_
      refine V_iconst C d_X12_findDeep_21 ?_
      refine V_putI C ck_12 fw_X12_209 fp_12_22 d_X12_findDeep_22 (okc rfl) h (fun M2 h => ?_)
      refine V_lv [1, 2, 0] rfl (t_X12_findDeep_25 C hR x0 x1 (wr_i (x2 * 16)) o_x1 (ok_wr _) (fun M x2 => f_X12_findDeep_7 G.2.2.2 x0 x1 n M x2) (fun M x2 o_x2 h9 => ih M x2 o_x2 h9) FU_ M2 h)
    · skip
      refine V_aload_n (j := 0) C d_X12_findDeep_76 rfl rfl ?_
      refine V_iconst C d_X12_findDeep_77 ?_
      refine V_putI C ck_12 fw_X12_206 fp_12_21 d_X12_findDeep_78 (okc rfl) h (fun M3 h => ?_)
      exact V_vret C hR d_X12_findDeep_81 (Option.some.inj h)
set_option maxHeartbeats 4000000 in
set_option maxRecDepth 100000 in
theorem t_X12_findDeep {X : XT_x} {G : GT_g} {M : Mem_m} {z : Mem_m} (C : Cx_ (K_X12_findDeep) X G) (hR : Rx_ X G none) (x0 : Nat) (x1 : Int) (o_x1 : ok_i x1) (h : f_X12_findDeep G.2.2.2 M x0 x1 = some z) : V_ (K_X12_findDeep) X G (Fq_ X G (Qv_ G z)) M 0 [(0, .ref (G.1 + x0)), (1, iv_i x1)] [] := by
  unfold f_X12_findDeep at h
  refine V_iconst C d_X12_findDeep_0 ?_
  refine V_istore_n (lv' := [(2, iv_i 1), (0, .ref (G.1 + x0)), (1, iv_i x1)]) C d_X12_findDeep_1 rfl (by decide) rfl ?_
  refine V_aload_n (j := 1) C d_X12_findDeep_2 rfl rfl ?_
  refine V_iconst C d_X12_findDeep_3 ?_
  refine V_putI C ck_12 fw_X12_206 fp_12_21 d_X12_findDeep_4 (okc rfl) h (fun M1 h => ?_)
  refine V_lv [1, 2, 0] rfl (t_X12_findDeep_7 C hR x0 x1 o_x1 FU_ M1 1 (okc rfl) h)
set_option maxHeartbeats 4000000 in
set_option maxRecDepth 100000 in
theorem ct_X12_findDeep {l : Launch} {G : GT_g} {M : Mem_m} (x0 : Nat) (x1 : Int) (o_x1 : ok_i x1) {z : Mem_m} (h : f_X12_findDeep G.2.2.2 M x0 x1 = some z) : MV_ l yX12_findDeep K_X12_findDeep none G M [.ref (G.1 + x0), iv_i x1] z :=
  met_of (by decide +kernel) rfl (Nat.le_of_ble_eq_true rfl) (fun X hl C hR => by subst hl; exact t_X12_findDeep C hR x0 x1 o_x1 h)
theorem d_X12_deep_0 : decode cX12_deep 0 = .ok (.aload_n 0, 1) := by decide +kernel
theorem d_X12_deep_1 : decode cX12_deep 1 = .ok (.iload_n 1, 1) := by decide +kernel
theorem d_X12_deep_2 : decode cX12_deep 2 = .ok (.invokevirtual 93, 3) := by decide +kernel
theorem d_X12_deep_5 : decode cX12_deep 5 = .ok (.ifCond .eq 8, 3) := by decide +kernel
theorem d_X12_deep_8 : decode cX12_deep 8 = .ok (.iload_n 2, 1) := by decide +kernel
theorem d_X12_deep_9 : decode cX12_deep 9 = .ok (.iconst (-1), 1) := by decide +kernel
theorem d_X12_deep_10 : decode cX12_deep 10 = .ok (.if_icmp .ge 5, 3) := by decide +kernel
theorem d_X12_deep_13 : decode cX12_deep 13 = .ok (.iconst (-1), 1) := by decide +kernel
theorem d_X12_deep_14 : decode cX12_deep 14 = .ok (.ireturn, 1) := by decide +kernel
theorem d_X12_deep_15 : decode cX12_deep 15 = .ok (.aload_n 0, 1) := by decide +kernel
theorem d_X12_deep_16 : decode cX12_deep 16 = .ok (.iload_n 1, 1) := by decide +kernel
theorem d_X12_deep_17 : decode cX12_deep 17 = .ok (.invokevirtual 215, 3) := by decide +kernel
theorem d_X12_deep_20 : decode cX12_deep 20 = .ok (.aload_n 0, 1) := by decide +kernel
theorem d_X12_deep_21 : decode cX12_deep 21 = .ok (.getfield 206, 3) := by decide +kernel
theorem d_X12_deep_24 : decode cX12_deep 24 = .ok (.ifCond .eq 11, 3) := by decide +kernel
theorem d_X12_deep_27 : decode cX12_deep 27 = .ok (.iload_n 2, 1) := by decide +kernel
theorem d_X12_deep_28 : decode cX12_deep 28 = .ok (.aload_n 0, 1) := by decide +kernel
theorem d_X12_deep_29 : decode cX12_deep 29 = .ok (.getfield 206, 3) := by decide +kernel
theorem d_X12_deep_32 : decode cX12_deep 32 = .ok (.if_icmp .lt 6, 3) := by decide +kernel
theorem d_X12_deep_35 : decode cX12_deep 35 = .ok (.bipush (-4), 2) := by decide +kernel
theorem d_X12_deep_37 : decode cX12_deep 37 = .ok (.ireturn, 1) := by decide +kernel
theorem d_X12_deep_38 : decode cX12_deep 38 = .ok (.iload_n 2, 1) := by decide +kernel
theorem d_X12_deep_39 : decode cX12_deep 39 = .ok (.ifCond .ge 8, 3) := by decide +kernel
theorem d_X12_deep_42 : decode cX12_deep 42 = .ok (.aload_n 0, 1) := by decide +kernel
theorem d_X12_deep_43 : decode cX12_deep 43 = .ok (.getfield 206, 3) := by decide +kernel
theorem d_X12_deep_46 : decode cX12_deep 46 = .ok (.ireturn, 1) := by decide +kernel
theorem d_X12_deep_47 : decode cX12_deep 47 = .ok (.aload_n 0, 1) := by decide +kernel
theorem d_X12_deep_48 : decode cX12_deep 48 = .ok (.getfield 209, 3) := by decide +kernel
theorem d_X12_deep_51 : decode cX12_deep 51 = .ok (.istore_n 3, 1) := by decide +kernel
theorem d_X12_deep_52 : decode cX12_deep 52 = .ok (.iload_n 2, 1) := by decide +kernel
theorem d_X12_deep_53 : decode cX12_deep 53 = .ok (.iconst 1, 1) := by decide +kernel
theorem d_X12_deep_54 : decode cX12_deep 54 = .ok (.iadd, 1) := by decide +kernel
theorem d_X12_deep_55 : decode cX12_deep 55 = .ok (.istore 4, 2) := by decide +kernel
theorem d_X12_deep_57 : decode cX12_deep 57 = .ok (.iload 4, 2) := by decide +kernel
theorem d_X12_deep_59 : decode cX12_deep 59 = .ok (.aload_n 0, 1) := by decide +kernel
theorem d_X12_deep_60 : decode cX12_deep 60 = .ok (.getfield 206, 3) := by decide +kernel
theorem d_X12_deep_63 : decode cX12_deep 63 = .ok (.if_icmp .ge 14, 3) := by decide +kernel
theorem d_X12_deep_66 : decode cX12_deep 66 = .ok (.iload_n 3, 1) := by decide +kernel
theorem d_X12_deep_67 : decode cX12_deep 67 = .ok (.bipush 16, 2) := by decide +kernel
theorem d_X12_deep_69 : decode cX12_deep 69 = .ok (.idiv, 1) := by decide +kernel
theorem d_X12_deep_70 : decode cX12_deep 70 = .ok (.istore_n 3, 1) := by decide +kernel
theorem d_X12_deep_71 : decode cX12_deep 71 = .ok (.iinc 4 1, 3) := by decide +kernel
theorem d_X12_deep_74 : decode cX12_deep 74 = .ok (.goto (-17), 3) := by decide +kernel
theorem d_X12_deep_77 : decode cX12_deep 77 = .ok (.iload_n 3, 1) := by decide +kernel
theorem d_X12_deep_78 : decode cX12_deep 78 = .ok (.bipush 16, 2) := by decide +kernel
theorem d_X12_deep_80 : decode cX12_deep 80 = .ok (.irem, 1) := by decide +kernel
theorem d_X12_deep_81 : decode cX12_deep 81 = .ok (.ireturn, 1) := by decide +kernel
set_option maxHeartbeats 4000000 in
set_option maxRecDepth 100000 in
theorem t_X12_deep_57 {X : XT_x} {G : GT_g} {z : (Mem_m × Int)} (C : Cx_ (K_X12_deep) X G) (hR : Rx_ X G (some .int)) (M : Mem_m) (x0 : Nat) : ∀ (n : Nat) (x3 : Int) (x4 : Int) (o_x3 : ok_i x3) (o_x4 : ok_i x4), f_X12_deep_57 G.2.2.2 M x0 n x3 x4 = some z → V_ (K_X12_deep) X G (Fq_ X G (Qi_ G z.1 z.2)) M 57 [(0, .ref (G.1 + x0)), (3, iv_i x3), (4, iv_i x4)] [] := by
  intro n
  induction n with
  | zero => intro x3 x4 o_x3 o_x4 h; exact absurd h (by simp [f_X12_deep_57])
  | succ n ih =>
    intro x3 x4 o_x3 o_x4 h
    unfold f_X12_deep_57 at h
    refine V_iload (j := 2) C d_X12_deep_57 rfl ?_
    refine V_aload_n (j := 0) C d_X12_deep_59 rfl rfl ?_
    refine V_getI C ck_12 fw_X12_206 d_X12_deep_60 h (fun v1 o1 h => ?_)
    refine V_icmp_ge (tgt := 77) C d_X12_deep_63 (by decide) o_x4 o1 h (fun h => ?_) (fun h => ?_)
    · skip
      refine V_iload_n (j := 1) C d_X12_deep_66 rfl rfl ?_
      refine V_bipush (v := 16) C d_X12_deep_67 rfl ?_
      refine V_idiv C d_X12_deep_69 (okc rfl) h (fun h => ?_)
      refine V_istore_n (lv' := [(3, iv_i (dv_i x3 16)), (0, .ref (G.1 + x0)), (4, iv_i x4)]) C d_X12_deep_70 rfl (by decide) rfl ?_
      refine V_iinc (j := 2) (lv' := [(4, iv_i (wr_i (x4 + 1))), (3, iv_i (dv_i x3 16)), (0, .ref (G.1 + x0))]) C d_X12_deep_71 rfl (by decide) rfl ?_
      refine V_goto (tgt := 57) C d_X12_deep_74 (by decide) ?_
      refine V_lv [2, 1, 0] rfl (ih (dv_i x3 16) (wr_i (x4 + 1)) (ok_I _) (ok_wr _) h)
    · skip
      refine V_iload_n (j := 1) C d_X12_deep_77 rfl rfl ?_
      refine V_bipush (v := 16) C d_X12_deep_78 rfl ?_
      refine V_irem C d_X12_deep_80 (okc rfl) h (fun h => ?_)
      exact V_iret_w C hR d_X12_deep_81 (ok_I _) h
set_option maxHeartbeats 4000000 in
set_option maxRecDepth 100000 in
theorem t_X12_deep {X : XT_x} {G : GT_g} {M : Mem_m} {z : (Mem_m × Int)} (C : Cx_ (K_X12_deep) X G) (hR : Rx_ X G (some .int)) (x0 : Nat) (x1 : Int) (x2 : Int) (o_x1 : ok_i x1) (o_x2 : ok_i x2) (h : f_X12_deep G.2.2.2 M x0 x1 x2 = some z) : V_ (K_X12_deep) X G (Fq_ X G (Qi_ G z.1 z.2)) M 0 [(0, .ref (G.1 + x0)), (1, iv_i x1), (2, iv_i x2)] [] := by
  unfold f_X12_deep at h
  refine V_aload_n (j := 0) C d_X12_deep_0 rfl rfl ?_
  refine V_iload_n (j := 1) C d_X12_deep_1 rfl rfl ?_
  refine V_callVri (K' := K_X12_isCard) (a := x0) (ci := 12) (av := [iv_i x1]) (rest := []) yi_X12_isCard (by decide) rfl C (yk_X12_isCard) l1_X12_93 (by decide) d_X12_deep_2 (fun v hv => ct_X12_isCard x0 x1 o_x1 hv) rfl rfl (Nat.le_of_ble_eq_true rfl) h (fun v1 o1 h => ?_)
  refine V_if_eq (tgt := 13) C d_X12_deep_5 (by decide) o1 h (fun h => ?_) (fun h => ?_)
  · skip
    refine V_iconst C d_X12_deep_13 ?_
    exact V_iret_w C hR d_X12_deep_14 (okc rfl) h
  · skip
    refine V_iload_n (j := 2) C d_X12_deep_8 rfl rfl ?_
    refine V_iconst C d_X12_deep_9 ?_
    refine V_icmp_ge (tgt := 15) C d_X12_deep_10 (by decide) o_x2 (okc rfl) h (fun h => ?_) (fun h => ?_)
    · skip
      refine V_iconst C d_X12_deep_13 ?_
      exact V_iret_w C hR d_X12_deep_14 (okc rfl) h
    · skip
      refine V_aload_n (j := 0) C d_X12_deep_15 rfl rfl ?_
      refine V_iload_n (j := 1) C d_X12_deep_16 rfl rfl ?_
      refine V_callVwv (K' := K_X12_findDeep) (a := x0) (ci := 12) (av := [iv_i x1]) (rest := []) yi_X12_findDeep (by decide) rfl C (yk_X12_findDeep) l1_X12_215 (by decide) d_X12_deep_17 (fun v hv => ct_X12_findDeep x0 x1 o_x1 hv) rfl rfl (Nat.le_of_ble_eq_true rfl) h (fun M2 h => ?_)
      refine V_aload_n (j := 0) C d_X12_deep_20 rfl rfl ?_
      refine V_getI C ck_12 fw_X12_206 d_X12_deep_21 h (fun v3 o3 h => ?_)
      refine V_if_eq (tgt := 35) C d_X12_deep_24 (by decide) o3 h (fun h => ?_) (fun h => ?_)
      · skip
        refine V_bipush (v := (-4)) C d_X12_deep_35 rfl ?_
        exact V_iret_w C hR d_X12_deep_37 (okc rfl) h
      · skip
        refine V_iload_n (j := 2) C d_X12_deep_27 rfl rfl ?_
        refine V_aload_n (j := 0) C d_X12_deep_28 rfl rfl ?_
        refine V_getI C ck_12 fw_X12_206 d_X12_deep_29 h (fun v4 o4 h => ?_)
        refine V_icmp_lt (tgt := 38) C d_X12_deep_32 (by decide) o_x2 o4 h (fun h => ?_) (fun h => ?_)
        · skip
          refine V_iload_n (j := 2) C d_X12_deep_38 rfl rfl ?_
          refine V_if_ge (tgt := 47) C d_X12_deep_39 (by decide) o_x2 h (fun h => ?_) (fun h => ?_)
          · skip
            refine V_aload_n (j := 0) C d_X12_deep_42 rfl rfl ?_
            refine V_getI C ck_12 fw_X12_206 d_X12_deep_43 h (fun v5 o5 h => ?_)
            exact V_iret_w C hR d_X12_deep_46 o5 h
          · skip
            refine V_aload_n (j := 0) C d_X12_deep_47 rfl rfl ?_
            refine V_getI C ck_12 fw_X12_209 d_X12_deep_48 h (fun v6 o6 h => ?_)
            refine V_istore_n (lv' := [(3, iv_i v6), (0, .ref (G.1 + x0)), (1, iv_i x1), (2, iv_i x2)]) C d_X12_deep_51 rfl (by decide) rfl ?_
            refine V_iload_n (j := 3) C d_X12_deep_52 rfl rfl ?_
            refine V_iconst C d_X12_deep_53 ?_
            refine V_iadd C d_X12_deep_54 ?_
            refine V_istore (lv' := [(4, iv_i (wr_i (x2 + 1))), (3, iv_i v6), (0, .ref (G.1 + x0)), (1, iv_i x1), (2, iv_i x2)]) C d_X12_deep_55 (by decide) rfl ?_
            refine V_lv [2, 1, 0] rfl (t_X12_deep_57 C hR M2 x0 FU_ v6 (wr_i (x2 + 1)) o6 (ok_wr _) h)
        · skip
          refine V_bipush (v := (-4)) C d_X12_deep_35 rfl ?_
          exact V_iret_w C hR d_X12_deep_37 (okc rfl) h
set_option maxHeartbeats 4000000 in
set_option maxRecDepth 100000 in
theorem ct_X12_deep {l : Launch} {G : GT_g} {M : Mem_m} (x0 : Nat) (x1 : Int) (x2 : Int) (o_x1 : ok_i x1) (o_x2 : ok_i x2) {z : (Mem_m × Int)} (h : f_X12_deep G.2.2.2 M x0 x1 x2 = some z) : MI_ l yX12_deep K_X12_deep (some .int) G M [.ref (G.1 + x0), iv_i x1, iv_i x2] z.1 z.2 :=
  met_of (by decide +kernel) rfl (Nat.le_of_ble_eq_true rfl) (fun X hl C hR => by subst hl; exact t_X12_deep C hR x0 x1 x2 o_x1 o_x2 h)
theorem d_X12_wrongParts_0 : decode cX12_wrongParts 0 = .ok (.aload_n 0, 1) := by decide +kernel
theorem d_X12_wrongParts_1 : decode cX12_wrongParts 1 = .ok (.iload_n 1, 1) := by decide +kernel
theorem d_X12_wrongParts_2 : decode cX12_wrongParts 2 = .ok (.iconst 0, 1) := by decide +kernel
theorem d_X12_wrongParts_3 : decode cX12_wrongParts 3 = .ok (.invokevirtual 79, 3) := by decide +kernel
theorem d_X12_wrongParts_6 : decode cX12_wrongParts 6 = .ok (.istore_n 2, 1) := by decide +kernel
theorem d_X12_wrongParts_7 : decode cX12_wrongParts 7 = .ok (.iload_n 2, 1) := by decide +kernel
theorem d_X12_wrongParts_8 : decode cX12_wrongParts 8 = .ok (.ifCond .eq 5, 3) := by decide +kernel
theorem d_X12_wrongParts_11 : decode cX12_wrongParts 11 = .ok (.iload_n 2, 1) := by decide +kernel
theorem d_X12_wrongParts_12 : decode cX12_wrongParts 12 = .ok (.ireturn, 1) := by decide +kernel
theorem d_X12_wrongParts_13 : decode cX12_wrongParts 13 = .ok (.aload_n 0, 1) := by decide +kernel
theorem d_X12_wrongParts_14 : decode cX12_wrongParts 14 = .ok (.getfield 22, 3) := by decide +kernel
theorem d_X12_wrongParts_17 : decode cX12_wrongParts 17 = .ok (.iload_n 1, 1) := by decide +kernel
theorem d_X12_wrongParts_18 : decode cX12_wrongParts 18 = .ok (.iaload, 1) := by decide +kernel
theorem d_X12_wrongParts_19 : decode cX12_wrongParts 19 = .ok (.i2l, 1) := by decide +kernel
theorem d_X12_wrongParts_20 : decode cX12_wrongParts 20 = .ok (.lconst 1, 1) := by decide +kernel
theorem d_X12_wrongParts_21 : decode cX12_wrongParts 21 = .ok (.ldc2_w 128, 3) := by decide +kernel
theorem d_X12_wrongParts_24 : decode cX12_wrongParts 24 = .ok (.invokestatic 69, 3) := by decide +kernel
theorem d_X12_wrongParts_27 : decode cX12_wrongParts 27 = .ok (.ifCond .ne 6, 3) := by decide +kernel
theorem d_X12_wrongParts_30 : decode cX12_wrongParts 30 = .ok (.bipush (-13), 2) := by decide +kernel
theorem d_X12_wrongParts_32 : decode cX12_wrongParts 32 = .ok (.ireturn, 1) := by decide +kernel
theorem d_X12_wrongParts_33 : decode cX12_wrongParts 33 = .ok (.iconst 0, 1) := by decide +kernel
theorem d_X12_wrongParts_34 : decode cX12_wrongParts 34 = .ok (.istore_n 3, 1) := by decide +kernel
theorem d_X12_wrongParts_35 : decode cX12_wrongParts 35 = .ok (.iload_n 3, 1) := by decide +kernel
theorem d_X12_wrongParts_36 : decode cX12_wrongParts 36 = .ok (.aload_n 0, 1) := by decide +kernel
theorem d_X12_wrongParts_37 : decode cX12_wrongParts 37 = .ok (.getfield 22, 3) := by decide +kernel
theorem d_X12_wrongParts_40 : decode cX12_wrongParts 40 = .ok (.iload_n 1, 1) := by decide +kernel
theorem d_X12_wrongParts_41 : decode cX12_wrongParts 41 = .ok (.iaload, 1) := by decide +kernel
theorem d_X12_wrongParts_42 : decode cX12_wrongParts 42 = .ok (.if_icmp .ge 78, 3) := by decide +kernel
theorem d_X12_wrongParts_45 : decode cX12_wrongParts 45 = .ok (.aload_n 0, 1) := by decide +kernel
theorem d_X12_wrongParts_46 : decode cX12_wrongParts 46 = .ok (.getfield 25, 3) := by decide +kernel
theorem d_X12_wrongParts_49 : decode cX12_wrongParts 49 = .ok (.bipush 80, 2) := by decide +kernel
theorem d_X12_wrongParts_51 : decode cX12_wrongParts 51 = .ok (.iload_n 1, 1) := by decide +kernel
theorem d_X12_wrongParts_52 : decode cX12_wrongParts 52 = .ok (.imul, 1) := by decide +kernel
theorem d_X12_wrongParts_53 : decode cX12_wrongParts 53 = .ok (.iload_n 3, 1) := by decide +kernel
theorem d_X12_wrongParts_54 : decode cX12_wrongParts 54 = .ok (.iadd, 1) := by decide +kernel
theorem d_X12_wrongParts_55 : decode cX12_wrongParts 55 = .ok (.iaload, 1) := by decide +kernel
theorem d_X12_wrongParts_56 : decode cX12_wrongParts 56 = .ok (.i2l, 1) := by decide +kernel
theorem d_X12_wrongParts_57 : decode cX12_wrongParts 57 = .ok (.lconst 0, 1) := by decide +kernel
theorem d_X12_wrongParts_58 : decode cX12_wrongParts 58 = .ok (.ldc2_w 101, 3) := by decide +kernel
theorem d_X12_wrongParts_61 : decode cX12_wrongParts 61 = .ok (.invokestatic 69, 3) := by decide +kernel
theorem d_X12_wrongParts_64 : decode cX12_wrongParts 64 = .ok (.ifCond .ne 6, 3) := by decide +kernel
theorem d_X12_wrongParts_67 : decode cX12_wrongParts 67 = .ok (.bipush (-13), 2) := by decide +kernel
theorem d_X12_wrongParts_69 : decode cX12_wrongParts 69 = .ok (.ireturn, 1) := by decide +kernel
theorem d_X12_wrongParts_70 : decode cX12_wrongParts 70 = .ok (.iconst 0, 1) := by decide +kernel
theorem d_X12_wrongParts_71 : decode cX12_wrongParts 71 = .ok (.istore 4, 2) := by decide +kernel
theorem d_X12_wrongParts_73 : decode cX12_wrongParts 73 = .ok (.iload 4, 2) := by decide +kernel
theorem d_X12_wrongParts_75 : decode cX12_wrongParts 75 = .ok (.iload_n 3, 1) := by decide +kernel
theorem d_X12_wrongParts_76 : decode cX12_wrongParts 76 = .ok (.if_icmp .ge 38, 3) := by decide +kernel
theorem d_X12_wrongParts_79 : decode cX12_wrongParts 79 = .ok (.aload_n 0, 1) := by decide +kernel
theorem d_X12_wrongParts_80 : decode cX12_wrongParts 80 = .ok (.getfield 25, 3) := by decide +kernel
theorem d_X12_wrongParts_83 : decode cX12_wrongParts 83 = .ok (.bipush 80, 2) := by decide +kernel
theorem d_X12_wrongParts_85 : decode cX12_wrongParts 85 = .ok (.iload_n 1, 1) := by decide +kernel
theorem d_X12_wrongParts_86 : decode cX12_wrongParts 86 = .ok (.imul, 1) := by decide +kernel
theorem d_X12_wrongParts_87 : decode cX12_wrongParts 87 = .ok (.iload 4, 2) := by decide +kernel
theorem d_X12_wrongParts_89 : decode cX12_wrongParts 89 = .ok (.iadd, 1) := by decide +kernel
theorem d_X12_wrongParts_90 : decode cX12_wrongParts 90 = .ok (.iaload, 1) := by decide +kernel
theorem d_X12_wrongParts_91 : decode cX12_wrongParts 91 = .ok (.aload_n 0, 1) := by decide +kernel
theorem d_X12_wrongParts_92 : decode cX12_wrongParts 92 = .ok (.getfield 25, 3) := by decide +kernel
theorem d_X12_wrongParts_95 : decode cX12_wrongParts 95 = .ok (.bipush 80, 2) := by decide +kernel
theorem d_X12_wrongParts_97 : decode cX12_wrongParts 97 = .ok (.iload_n 1, 1) := by decide +kernel
theorem d_X12_wrongParts_98 : decode cX12_wrongParts 98 = .ok (.imul, 1) := by decide +kernel
theorem d_X12_wrongParts_99 : decode cX12_wrongParts 99 = .ok (.iload_n 3, 1) := by decide +kernel
theorem d_X12_wrongParts_100 : decode cX12_wrongParts 100 = .ok (.iadd, 1) := by decide +kernel
theorem d_X12_wrongParts_101 : decode cX12_wrongParts 101 = .ok (.iaload, 1) := by decide +kernel
theorem d_X12_wrongParts_102 : decode cX12_wrongParts 102 = .ok (.if_icmp .ne 6, 3) := by decide +kernel
theorem d_X12_wrongParts_105 : decode cX12_wrongParts 105 = .ok (.bipush (-13), 2) := by decide +kernel
theorem d_X12_wrongParts_107 : decode cX12_wrongParts 107 = .ok (.ireturn, 1) := by decide +kernel
theorem d_X12_wrongParts_108 : decode cX12_wrongParts 108 = .ok (.iinc 4 1, 3) := by decide +kernel
theorem d_X12_wrongParts_111 : decode cX12_wrongParts 111 = .ok (.goto (-38), 3) := by decide +kernel
theorem d_X12_wrongParts_114 : decode cX12_wrongParts 114 = .ok (.iinc 3 1, 3) := by decide +kernel
theorem d_X12_wrongParts_117 : decode cX12_wrongParts 117 = .ok (.goto (-82), 3) := by decide +kernel
theorem d_X12_wrongParts_120 : decode cX12_wrongParts 120 = .ok (.iconst 0, 1) := by decide +kernel
theorem d_X12_wrongParts_121 : decode cX12_wrongParts 121 = .ok (.ireturn, 1) := by decide +kernel
set_option maxHeartbeats 4000000 in
set_option maxRecDepth 100000 in
theorem t_X12_wrongParts_73 {X : XT_x} {G : GT_g} {z : Int} (C : Cx_ (K_X12_wrongParts) X G) (hR : Rx_ X G (some .int)) (M : Mem_m) (x0 : Nat) (x1 : Int) (x3 : Int) (o_x1 : ok_i x1) (o_x3 : ok_i x3) (k_35 : Int → Option Int) (hk_35 : ∀ (x3 : Int) (o_x3 : ok_i x3), k_35 x3 = some z → V_ (K_X12_wrongParts) X G (Fq_ X G (Qi_ G M z)) M 35 [(0, .ref (G.1 + x0)), (1, iv_i x1), (3, iv_i x3)] []) : ∀ (n : Nat) (x4 : Int) (o_x4 : ok_i x4), f_X12_wrongParts_73 G.2.2.2 k_35 M x0 x1 x3 n x4 = some z → V_ (K_X12_wrongParts) X G (Fq_ X G (Qi_ G M z)) M 73 [(0, .ref (G.1 + x0)), (1, iv_i x1), (3, iv_i x3), (4, iv_i x4)] [] := by
  intro n
  induction n with
  | zero => intro x4 o_x4 h; exact absurd h (by simp [f_X12_wrongParts_73])
  | succ n ih =>
    intro x4 o_x4 h
    unfold f_X12_wrongParts_73 at h
    refine V_iload (j := 3) C d_X12_wrongParts_73 rfl ?_
    refine V_iload_n (j := 2) C d_X12_wrongParts_75 rfl rfl ?_
    refine V_icmp_ge (tgt := 114) C d_X12_wrongParts_76 (by decide) o_x4 o_x3 h (fun h => ?_) (fun h => ?_)
    · skip
      refine V_aload_n (j := 0) C d_X12_wrongParts_79 rfl rfl ?_
      refine V_getR C ck_12 fw_X12_25 d_X12_wrongParts_80 h (fun v1 h => ?_)
      refine V_bipush (v := 80) C d_X12_wrongParts_83 rfl ?_
      refine V_iload_n (j := 1) C d_X12_wrongParts_85 rfl rfl ?_
      refine V_imul C d_X12_wrongParts_86 ?_
      refine V_iload (j := 3) C d_X12_wrongParts_87 rfl ?_
      refine V_iadd C d_X12_wrongParts_89 ?_
      refine V_iald C d_X12_wrongParts_90 (ok_wr _) h (fun v2 o2 h => ?_)
      refine V_aload_n (j := 0) C d_X12_wrongParts_91 rfl rfl ?_
      refine V_getR C ck_12 fw_X12_25 d_X12_wrongParts_92 h (fun v3 h => ?_)
      refine V_bipush (v := 80) C d_X12_wrongParts_95 rfl ?_
      refine V_iload_n (j := 1) C d_X12_wrongParts_97 rfl rfl ?_
      refine V_imul C d_X12_wrongParts_98 ?_
      refine V_iload_n (j := 2) C d_X12_wrongParts_99 rfl rfl ?_
      refine V_iadd C d_X12_wrongParts_100 ?_
      refine V_iald C d_X12_wrongParts_101 (ok_wr _) h (fun v4 o4 h => ?_)
      refine V_icmp_ne (tgt := 108) C d_X12_wrongParts_102 (by decide) o2 o4 h (fun h => ?_) (fun h => ?_)
      · skip
        refine V_bipush (v := (-13)) C d_X12_wrongParts_105 rfl ?_
        exact V_iret_r C hR d_X12_wrongParts_107 (okc rfl) h
      · skip
        refine V_iinc (j := 3) (lv' := [(4, iv_i (wr_i (x4 + 1))), (0, .ref (G.1 + x0)), (1, iv_i x1), (3, iv_i x3)]) C d_X12_wrongParts_108 rfl (by decide) rfl ?_
        refine V_goto (tgt := 73) C d_X12_wrongParts_111 (by decide) ?_
        refine V_lv [1, 2, 3, 0] rfl (ih (wr_i (x4 + 1)) (ok_wr _) h)
    · skip
      refine V_iinc (j := 2) (lv' := [(3, iv_i (wr_i (x3 + 1))), (0, .ref (G.1 + x0)), (1, iv_i x1), (4, iv_i x4)]) C d_X12_wrongParts_114 rfl (by decide) rfl ?_
      refine V_goto (tgt := 35) C d_X12_wrongParts_117 (by decide) ?_
      refine V_lv [1, 2, 0] rfl (hk_35 (wr_i (x3 + 1)) (ok_wr _) h)
set_option maxHeartbeats 4000000 in
set_option maxRecDepth 100000 in
theorem t_X12_wrongParts_35 {X : XT_x} {G : GT_g} {z : Int} (C : Cx_ (K_X12_wrongParts) X G) (hR : Rx_ X G (some .int)) (M : Mem_m) (x0 : Nat) (x1 : Int) (o_x1 : ok_i x1) : ∀ (n : Nat) (x3 : Int) (o_x3 : ok_i x3), f_X12_wrongParts_35 G.2.2.2 M x0 x1 n x3 = some z → V_ (K_X12_wrongParts) X G (Fq_ X G (Qi_ G M z)) M 35 [(0, .ref (G.1 + x0)), (1, iv_i x1), (3, iv_i x3)] [] := by
  intro n
  induction n with
  | zero => intro x3 o_x3 h; exact absurd h (by simp [f_X12_wrongParts_35])
  | succ n ih =>
    intro x3 o_x3 h
    unfold f_X12_wrongParts_35 at h
    refine V_iload_n (j := 2) C d_X12_wrongParts_35 rfl rfl ?_
    refine V_aload_n (j := 0) C d_X12_wrongParts_36 rfl rfl ?_
    refine V_getR C ck_12 fw_X12_22 d_X12_wrongParts_37 h (fun v1 h => ?_)
    refine V_iload_n (j := 1) C d_X12_wrongParts_40 rfl rfl ?_
    refine V_iald C d_X12_wrongParts_41 o_x1 h (fun v2 o2 h => ?_)
    refine V_icmp_ge (tgt := 120) C d_X12_wrongParts_42 (by decide) o_x3 o2 h (fun h => ?_) (fun h => ?_)
    · skip
      refine V_aload_n (j := 0) C d_X12_wrongParts_45 rfl rfl ?_
      refine V_getR C ck_12 fw_X12_25 d_X12_wrongParts_46 h (fun v3 h => ?_)
      refine V_bipush (v := 80) C d_X12_wrongParts_49 rfl ?_
      refine V_iload_n (j := 1) C d_X12_wrongParts_51 rfl rfl ?_
      refine V_imul C d_X12_wrongParts_52 ?_
      refine V_iload_n (j := 2) C d_X12_wrongParts_53 rfl rfl ?_
      refine V_iadd C d_X12_wrongParts_54 ?_
      refine V_iald C d_X12_wrongParts_55 (ok_wr _) h (fun v4 o4 h => ?_)
      refine V_i2l C d_X12_wrongParts_56 o4 ?_
      refine V_lconst0 C d_X12_wrongParts_57 ?_
      refine V_ldc2 (v := 3) C d_X12_wrongParts_58 cl_X12_101 ?_
      refine V_callSri (K' := K_X12_isIn) (av := [jv_i v4, jv_i 0, jv_i 3]) (rest := []) ys_X12_isIn C (yk_X12_isIn) l1_X12_69 (by decide) d_X12_wrongParts_61 (fun v hv => ct_X12_isIn v4 0 3 o4 (okc rfl) (okc rfl) hv) rfl rfl (Nat.le_of_ble_eq_true rfl) h (fun v5 o5 h => ?_)
      refine V_if_ne (tgt := 70) C d_X12_wrongParts_64 (by decide) o5 h (fun h => ?_) (fun h => ?_)
      · skip
        refine V_bipush (v := (-13)) C d_X12_wrongParts_67 rfl ?_
        exact V_iret_r C hR d_X12_wrongParts_69 (okc rfl) h
      · skip
        refine V_iconst C d_X12_wrongParts_70 ?_
        refine V_istore (lv' := [(4, iv_i 0), (0, .ref (G.1 + x0)), (1, iv_i x1), (3, iv_i x3)]) C d_X12_wrongParts_71 (by decide) rfl ?_
        refine V_lv [1, 2, 3, 0] rfl (t_X12_wrongParts_73 C hR M x0 x1 x3 o_x1 o_x3 (fun x3 => f_X12_wrongParts_35 G.2.2.2 M x0 x1 n x3) (fun x3 o_x3 h9 => ih x3 o_x3 h9) FU_ 0 (okc rfl) h)
    · skip
      refine V_iconst C d_X12_wrongParts_120 ?_
      exact V_iret_r C hR d_X12_wrongParts_121 (okc rfl) h
set_option maxHeartbeats 4000000 in
set_option maxRecDepth 100000 in
theorem t_X12_wrongParts {X : XT_x} {G : GT_g} {M : Mem_m} {z : Int} (C : Cx_ (K_X12_wrongParts) X G) (hR : Rx_ X G (some .int)) (x0 : Nat) (x1 : Int) (o_x1 : ok_i x1) (h : f_X12_wrongParts G.2.2.2 M x0 x1 = some z) : V_ (K_X12_wrongParts) X G (Fq_ X G (Qi_ G M z)) M 0 [(0, .ref (G.1 + x0)), (1, iv_i x1)] [] := by
  unfold f_X12_wrongParts at h
  refine V_aload_n (j := 0) C d_X12_wrongParts_0 rfl rfl ?_
  refine V_iload_n (j := 1) C d_X12_wrongParts_1 rfl rfl ?_
  refine V_iconst C d_X12_wrongParts_2 ?_
  refine V_callVri (K' := K_X12_wrongRow) (a := x0) (ci := 12) (av := [iv_i x1, iv_i 0]) (rest := []) yi_X12_wrongRow (by decide) rfl C (yk_X12_wrongRow) l1_X12_79 (by decide) d_X12_wrongParts_3 (fun v hv => ct_X12_wrongRow x0 x1 0 o_x1 (okc rfl) hv) rfl rfl (Nat.le_of_ble_eq_true rfl) h (fun v1 o1 h => ?_)
  refine V_istore_n (lv' := [(2, iv_i v1), (0, .ref (G.1 + x0)), (1, iv_i x1)]) C d_X12_wrongParts_6 rfl (by decide) rfl ?_
  refine V_iload_n (j := 0) C d_X12_wrongParts_7 rfl rfl ?_
  refine V_if_eq (tgt := 13) C d_X12_wrongParts_8 (by decide) o1 h (fun h => ?_) (fun h => ?_)
  · skip
    refine V_aload_n (j := 1) C d_X12_wrongParts_13 rfl rfl ?_
    refine V_getR C ck_12 fw_X12_22 d_X12_wrongParts_14 h (fun v2 h => ?_)
    refine V_iload_n (j := 2) C d_X12_wrongParts_17 rfl rfl ?_
    refine V_iald C d_X12_wrongParts_18 o_x1 h (fun v3 o3 h => ?_)
    refine V_i2l C d_X12_wrongParts_19 o3 ?_
    refine V_lconst1 C d_X12_wrongParts_20 ?_
    refine V_ldc2 (v := 4) C d_X12_wrongParts_21 cl_X12_128 ?_
    refine V_callSri (K' := K_X12_isIn) (av := [jv_i v3, jv_i 1, jv_i 4]) (rest := []) ys_X12_isIn C (yk_X12_isIn) l1_X12_69 (by decide) d_X12_wrongParts_24 (fun v hv => ct_X12_isIn v3 1 4 o3 (okc rfl) (okc rfl) hv) rfl rfl (Nat.le_of_ble_eq_true rfl) h (fun v4 o4 h => ?_)
    refine V_if_ne (tgt := 33) C d_X12_wrongParts_27 (by decide) o4 h (fun h => ?_) (fun h => ?_)
    · skip
      refine V_bipush (v := (-13)) C d_X12_wrongParts_30 rfl ?_
      exact V_iret_r C hR d_X12_wrongParts_32 (okc rfl) h
    · skip
      refine V_iconst C d_X12_wrongParts_33 ?_
      refine V_istore_n (lv' := [(3, iv_i 0), (2, iv_i v1), (0, .ref (G.1 + x0)), (1, iv_i x1)]) C d_X12_wrongParts_34 rfl (by decide) rfl ?_
      refine V_lv [2, 3, 0] rfl (t_X12_wrongParts_35 C hR M x0 x1 o_x1 FU_ 0 (okc rfl) h)
  · skip
    refine V_iload_n (j := 0) C d_X12_wrongParts_11 rfl rfl ?_
    exact V_iret_r C hR d_X12_wrongParts_12 o1 h
set_option maxHeartbeats 4000000 in
set_option maxRecDepth 100000 in
theorem ct_X12_wrongParts {l : Launch} {G : GT_g} {M : Mem_m} (x0 : Nat) (x1 : Int) (o_x1 : ok_i x1) {z : Int} (h : f_X12_wrongParts G.2.2.2 M x0 x1 = some z) : MI_ l yX12_wrongParts K_X12_wrongParts (some .int) G M [.ref (G.1 + x0), iv_i x1] M z :=
  met_of (by decide +kernel) rfl (Nat.le_of_ble_eq_true rfl) (fun X hl C hR => by subst hl; exact t_X12_wrongParts C hR x0 x1 o_x1 h)
theorem d_X12_partsOf_0 : decode cX12_partsOf 0 = .ok (.iconst 0, 1) := by decide +kernel
theorem d_X12_partsOf_1 : decode cX12_partsOf 1 = .ok (.istore_n 2, 1) := by decide +kernel
theorem d_X12_partsOf_2 : decode cX12_partsOf 2 = .ok (.aload_n 0, 1) := by decide +kernel
theorem d_X12_partsOf_3 : decode cX12_partsOf 3 = .ok (.getfield 22, 3) := by decide +kernel
theorem d_X12_partsOf_6 : decode cX12_partsOf 6 = .ok (.iload_n 1, 1) := by decide +kernel
theorem d_X12_partsOf_7 : decode cX12_partsOf 7 = .ok (.iaload, 1) := by decide +kernel
theorem d_X12_partsOf_8 : decode cX12_partsOf 8 = .ok (.iconst 1, 1) := by decide +kernel
theorem d_X12_partsOf_9 : decode cX12_partsOf 9 = .ok (.isub, 1) := by decide +kernel
theorem d_X12_partsOf_10 : decode cX12_partsOf 10 = .ok (.istore_n 3, 1) := by decide +kernel
theorem d_X12_partsOf_11 : decode cX12_partsOf 11 = .ok (.iload_n 3, 1) := by decide +kernel
theorem d_X12_partsOf_12 : decode cX12_partsOf 12 = .ok (.ifCond .lt 27, 3) := by decide +kernel
theorem d_X12_partsOf_15 : decode cX12_partsOf 15 = .ok (.iconst 5, 1) := by decide +kernel
theorem d_X12_partsOf_16 : decode cX12_partsOf 16 = .ok (.iload_n 2, 1) := by decide +kernel
theorem d_X12_partsOf_17 : decode cX12_partsOf 17 = .ok (.imul, 1) := by decide +kernel
theorem d_X12_partsOf_18 : decode cX12_partsOf 18 = .ok (.aload_n 0, 1) := by decide +kernel
theorem d_X12_partsOf_19 : decode cX12_partsOf 19 = .ok (.getfield 25, 3) := by decide +kernel
theorem d_X12_partsOf_22 : decode cX12_partsOf 22 = .ok (.bipush 80, 2) := by decide +kernel
theorem d_X12_partsOf_24 : decode cX12_partsOf 24 = .ok (.iload_n 1, 1) := by decide +kernel
theorem d_X12_partsOf_25 : decode cX12_partsOf 25 = .ok (.imul, 1) := by decide +kernel
theorem d_X12_partsOf_26 : decode cX12_partsOf 26 = .ok (.iload_n 3, 1) := by decide +kernel
theorem d_X12_partsOf_27 : decode cX12_partsOf 27 = .ok (.iadd, 1) := by decide +kernel
theorem d_X12_partsOf_28 : decode cX12_partsOf 28 = .ok (.iaload, 1) := by decide +kernel
theorem d_X12_partsOf_29 : decode cX12_partsOf 29 = .ok (.iadd, 1) := by decide +kernel
theorem d_X12_partsOf_30 : decode cX12_partsOf 30 = .ok (.iconst 1, 1) := by decide +kernel
theorem d_X12_partsOf_31 : decode cX12_partsOf 31 = .ok (.iadd, 1) := by decide +kernel
theorem d_X12_partsOf_32 : decode cX12_partsOf 32 = .ok (.istore_n 2, 1) := by decide +kernel
theorem d_X12_partsOf_33 : decode cX12_partsOf 33 = .ok (.iinc 3 (-1), 3) := by decide +kernel
theorem d_X12_partsOf_36 : decode cX12_partsOf 36 = .ok (.goto (-25), 3) := by decide +kernel
theorem d_X12_partsOf_39 : decode cX12_partsOf 39 = .ok (.iload_n 2, 1) := by decide +kernel
theorem d_X12_partsOf_40 : decode cX12_partsOf 40 = .ok (.ireturn, 1) := by decide +kernel
set_option maxHeartbeats 4000000 in
set_option maxRecDepth 100000 in
theorem t_X12_partsOf_11 {X : XT_x} {G : GT_g} {z : Int} (C : Cx_ (K_X12_partsOf) X G) (hR : Rx_ X G (some .int)) (M : Mem_m) (x0 : Nat) (x1 : Int) (o_x1 : ok_i x1) : ∀ (n : Nat) (x2 : Int) (x3 : Int) (o_x2 : ok_i x2) (o_x3 : ok_i x3), f_X12_partsOf_11 G.2.2.2 M x0 x1 n x2 x3 = some z → V_ (K_X12_partsOf) X G (Fq_ X G (Qi_ G M z)) M 11 [(0, .ref (G.1 + x0)), (1, iv_i x1), (2, iv_i x2), (3, iv_i x3)] [] := by
  intro n
  induction n with
  | zero => intro x2 x3 o_x2 o_x3 h; exact absurd h (by simp [f_X12_partsOf_11])
  | succ n ih =>
    intro x2 x3 o_x2 o_x3 h
    unfold f_X12_partsOf_11 at h
    refine V_iload_n (j := 3) C d_X12_partsOf_11 rfl rfl ?_
    refine V_if_lt (tgt := 39) C d_X12_partsOf_12 (by decide) o_x3 h (fun h => ?_) (fun h => ?_)
    · skip
      refine V_iload_n (j := 2) C d_X12_partsOf_39 rfl rfl ?_
      exact V_iret_r C hR d_X12_partsOf_40 o_x2 h
    · skip
      refine V_iconst C d_X12_partsOf_15 ?_
      refine V_iload_n (j := 2) C d_X12_partsOf_16 rfl rfl ?_
      refine V_imul C d_X12_partsOf_17 ?_
      refine V_aload_n (j := 0) C d_X12_partsOf_18 rfl rfl ?_
      refine V_getR C ck_12 fw_X12_25 d_X12_partsOf_19 h (fun v1 h => ?_)
      refine V_bipush (v := 80) C d_X12_partsOf_22 rfl ?_
      refine V_iload_n (j := 1) C d_X12_partsOf_24 rfl rfl ?_
      refine V_imul C d_X12_partsOf_25 ?_
      refine V_iload_n (j := 3) C d_X12_partsOf_26 rfl rfl ?_
      refine V_iadd C d_X12_partsOf_27 ?_
      refine V_iald C d_X12_partsOf_28 (ok_wr _) h (fun v2 o2 h => ?_)
      refine V_iadd C d_X12_partsOf_29 ?_
      refine V_iconst C d_X12_partsOf_30 ?_
      refine V_iadd C d_X12_partsOf_31 ?_
      refine V_istore_n (lv' := [(2, iv_i (wr_i ((wr_i ((wr_i (5 * x2)) + v2)) + 1))), (0, .ref (G.1 + x0)), (1, iv_i x1), (3, iv_i x3)]) C d_X12_partsOf_32 rfl (by decide) rfl ?_
      refine V_iinc (j := 3) (lv' := [(3, iv_i (wr_i (x3 + (-1)))), (2, iv_i (wr_i ((wr_i ((wr_i (5 * x2)) + v2)) + 1))), (0, .ref (G.1 + x0)), (1, iv_i x1)]) C d_X12_partsOf_33 rfl (by decide) rfl ?_
      refine V_goto (tgt := 11) C d_X12_partsOf_36 (by decide) ?_
      refine V_lv [2, 3, 1, 0] rfl (ih (wr_i ((wr_i ((wr_i (5 * x2)) + v2)) + 1)) (wr_i (x3 + (-1))) (ok_wr _) (ok_wr _) h)
set_option maxHeartbeats 4000000 in
set_option maxRecDepth 100000 in
theorem t_X12_partsOf {X : XT_x} {G : GT_g} {M : Mem_m} {z : Int} (C : Cx_ (K_X12_partsOf) X G) (hR : Rx_ X G (some .int)) (x0 : Nat) (x1 : Int) (o_x1 : ok_i x1) (h : f_X12_partsOf G.2.2.2 M x0 x1 = some z) : V_ (K_X12_partsOf) X G (Fq_ X G (Qi_ G M z)) M 0 [(0, .ref (G.1 + x0)), (1, iv_i x1)] [] := by
  unfold f_X12_partsOf at h
  refine V_iconst C d_X12_partsOf_0 ?_
  refine V_istore_n (lv' := [(2, iv_i 0), (0, .ref (G.1 + x0)), (1, iv_i x1)]) C d_X12_partsOf_1 rfl (by decide) rfl ?_
  refine V_aload_n (j := 1) C d_X12_partsOf_2 rfl rfl ?_
  refine V_getR C ck_12 fw_X12_22 d_X12_partsOf_3 h (fun v1 h => ?_)
  refine V_iload_n (j := 2) C d_X12_partsOf_6 rfl rfl ?_
  refine V_iald C d_X12_partsOf_7 o_x1 h (fun v2 o2 h => ?_)
  refine V_iconst C d_X12_partsOf_8 ?_
  refine V_isub C d_X12_partsOf_9 ?_
  refine V_istore_n (lv' := [(3, iv_i (wr_i (v2 - 1))), (2, iv_i 0), (0, .ref (G.1 + x0)), (1, iv_i x1)]) C d_X12_partsOf_10 rfl (by decide) rfl ?_
  refine V_lv [2, 3, 1, 0] rfl (t_X12_partsOf_11 C hR M x0 x1 o_x1 FU_ 0 (wr_i (v2 - 1)) (okc rfl) (ok_wr _) h)
set_option maxHeartbeats 4000000 in
set_option maxRecDepth 100000 in
theorem ct_X12_partsOf {l : Launch} {G : GT_g} {M : Mem_m} (x0 : Nat) (x1 : Int) (o_x1 : ok_i x1) {z : Int} (h : f_X12_partsOf G.2.2.2 M x0 x1 = some z) : MI_ l yX12_partsOf K_X12_partsOf (some .int) G M [.ref (G.1 + x0), iv_i x1] M z :=
  met_of (by decide +kernel) rfl (Nat.le_of_ble_eq_true rfl) (fun X hl C hR => by subst hl; exact t_X12_partsOf C hR x0 x1 o_x1 h)
theorem d_X12_placeIn_0 : decode cX12_placeIn 0 = .ok (.iload_n 0, 1) := by decide +kernel
theorem d_X12_placeIn_1 : decode cX12_placeIn 1 = .ok (.istore_n 2, 1) := by decide +kernel
theorem d_X12_placeIn_2 : decode cX12_placeIn 2 = .ok (.bipush 15, 2) := by decide +kernel
theorem d_X12_placeIn_4 : decode cX12_placeIn 4 = .ok (.istore_n 3, 1) := by decide +kernel
theorem d_X12_placeIn_5 : decode cX12_placeIn 5 = .ok (.bipush 6, 2) := by decide +kernel
theorem d_X12_placeIn_7 : decode cX12_placeIn 7 = .ok (.istore 4, 2) := by decide +kernel
theorem d_X12_placeIn_9 : decode cX12_placeIn 9 = .ok (.iconst 0, 1) := by decide +kernel
theorem d_X12_placeIn_10 : decode cX12_placeIn 10 = .ok (.istore 5, 2) := by decide +kernel
theorem d_X12_placeIn_12 : decode cX12_placeIn 12 = .ok (.iload 5, 2) := by decide +kernel
theorem d_X12_placeIn_14 : decode cX12_placeIn 14 = .ok (.iconst 4, 1) := by decide +kernel
theorem d_X12_placeIn_15 : decode cX12_placeIn 15 = .ok (.if_icmp .ge 91, 3) := by decide +kernel
theorem d_X12_placeIn_18 : decode cX12_placeIn 18 = .ok (.iload_n 2, 1) := by decide +kernel
theorem d_X12_placeIn_19 : decode cX12_placeIn 19 = .ok (.iload 4, 2) := by decide +kernel
theorem d_X12_placeIn_21 : decode cX12_placeIn 21 = .ok (.idiv, 1) := by decide +kernel
theorem d_X12_placeIn_22 : decode cX12_placeIn 22 = .ok (.istore 6, 2) := by decide +kernel
theorem d_X12_placeIn_24 : decode cX12_placeIn 24 = .ok (.iload_n 2, 1) := by decide +kernel
theorem d_X12_placeIn_25 : decode cX12_placeIn 25 = .ok (.iload 4, 2) := by decide +kernel
theorem d_X12_placeIn_27 : decode cX12_placeIn 27 = .ok (.irem, 1) := by decide +kernel
theorem d_X12_placeIn_28 : decode cX12_placeIn 28 = .ok (.istore_n 2, 1) := by decide +kernel
theorem d_X12_placeIn_29 : decode cX12_placeIn 29 = .ok (.iload 5, 2) := by decide +kernel
theorem d_X12_placeIn_31 : decode cX12_placeIn 31 = .ok (.iconst 2, 1) := by decide +kernel
theorem d_X12_placeIn_32 : decode cX12_placeIn 32 = .ok (.if_icmp .ge 13, 3) := by decide +kernel
theorem d_X12_placeIn_35 : decode cX12_placeIn 35 = .ok (.iload 4, 2) := by decide +kernel
theorem d_X12_placeIn_37 : decode cX12_placeIn 37 = .ok (.iconst 3, 1) := by decide +kernel
theorem d_X12_placeIn_38 : decode cX12_placeIn 38 = .ok (.iload 5, 2) := by decide +kernel
theorem d_X12_placeIn_40 : decode cX12_placeIn 40 = .ok (.isub, 1) := by decide +kernel
theorem d_X12_placeIn_41 : decode cX12_placeIn 41 = .ok (.idiv, 1) := by decide +kernel
theorem d_X12_placeIn_42 : decode cX12_placeIn 42 = .ok (.goto 4, 3) := by decide +kernel
theorem d_X12_placeIn_45 : decode cX12_placeIn 45 = .ok (.iconst 1, 1) := by decide +kernel
theorem d_X12_placeIn_46 : decode cX12_placeIn 46 = .ok (.istore 4, 2) := by decide +kernel
theorem d_X12_placeIn_48 : decode cX12_placeIn 48 = .ok (.iconst 0, 1) := by decide +kernel
theorem d_X12_placeIn_49 : decode cX12_placeIn 49 = .ok (.istore 7, 2) := by decide +kernel
theorem d_X12_placeIn_51 : decode cX12_placeIn 51 = .ok (.iload_n 3, 1) := by decide +kernel
theorem d_X12_placeIn_52 : decode cX12_placeIn 52 = .ok (.iload 7, 2) := by decide +kernel
theorem d_X12_placeIn_54 : decode cX12_placeIn 54 = .ok (.ishr, 1) := by decide +kernel
theorem d_X12_placeIn_55 : decode cX12_placeIn 55 = .ok (.iconst 1, 1) := by decide +kernel
theorem d_X12_placeIn_56 : decode cX12_placeIn 56 = .ok (.iand, 1) := by decide +kernel
theorem d_X12_placeIn_57 : decode cX12_placeIn 57 = .ok (.ifCond .eq 8, 3) := by decide +kernel
theorem d_X12_placeIn_60 : decode cX12_placeIn 60 = .ok (.iload 6, 2) := by decide +kernel
theorem d_X12_placeIn_62 : decode cX12_placeIn 62 = .ok (.ifCond .le 20, 3) := by decide +kernel
theorem d_X12_placeIn_65 : decode cX12_placeIn 65 = .ok (.iload 6, 2) := by decide +kernel
theorem d_X12_placeIn_67 : decode cX12_placeIn 67 = .ok (.iload_n 3, 1) := by decide +kernel
theorem d_X12_placeIn_68 : decode cX12_placeIn 68 = .ok (.iload 7, 2) := by decide +kernel
theorem d_X12_placeIn_70 : decode cX12_placeIn 70 = .ok (.ishr, 1) := by decide +kernel
theorem d_X12_placeIn_71 : decode cX12_placeIn 71 = .ok (.iconst 1, 1) := by decide +kernel
theorem d_X12_placeIn_72 : decode cX12_placeIn 72 = .ok (.iand, 1) := by decide +kernel
theorem d_X12_placeIn_73 : decode cX12_placeIn 73 = .ok (.isub, 1) := by decide +kernel
theorem d_X12_placeIn_74 : decode cX12_placeIn 74 = .ok (.istore 6, 2) := by decide +kernel
theorem d_X12_placeIn_76 : decode cX12_placeIn 76 = .ok (.iinc 7 1, 3) := by decide +kernel
theorem d_X12_placeIn_79 : decode cX12_placeIn 79 = .ok (.goto (-28), 3) := by decide +kernel
theorem d_X12_placeIn_82 : decode cX12_placeIn 82 = .ok (.iload 7, 2) := by decide +kernel
theorem d_X12_placeIn_84 : decode cX12_placeIn 84 = .ok (.iload_n 1, 1) := by decide +kernel
theorem d_X12_placeIn_85 : decode cX12_placeIn 85 = .ok (.if_icmp .ne 6, 3) := by decide +kernel
theorem d_X12_placeIn_88 : decode cX12_placeIn 88 = .ok (.iload 5, 2) := by decide +kernel
theorem d_X12_placeIn_90 : decode cX12_placeIn 90 = .ok (.ireturn, 1) := by decide +kernel
theorem d_X12_placeIn_91 : decode cX12_placeIn 91 = .ok (.iload_n 3, 1) := by decide +kernel
theorem d_X12_placeIn_92 : decode cX12_placeIn 92 = .ok (.iconst 1, 1) := by decide +kernel
theorem d_X12_placeIn_93 : decode cX12_placeIn 93 = .ok (.iload 7, 2) := by decide +kernel
theorem d_X12_placeIn_95 : decode cX12_placeIn 95 = .ok (.ishl, 1) := by decide +kernel
theorem d_X12_placeIn_96 : decode cX12_placeIn 96 = .ok (.iconst (-1), 1) := by decide +kernel
theorem d_X12_placeIn_97 : decode cX12_placeIn 97 = .ok (.ixor, 1) := by decide +kernel
theorem d_X12_placeIn_98 : decode cX12_placeIn 98 = .ok (.iand, 1) := by decide +kernel
theorem d_X12_placeIn_99 : decode cX12_placeIn 99 = .ok (.istore_n 3, 1) := by decide +kernel
theorem d_X12_placeIn_100 : decode cX12_placeIn 100 = .ok (.iinc 5 1, 3) := by decide +kernel
theorem d_X12_placeIn_103 : decode cX12_placeIn 103 = .ok (.goto (-91), 3) := by decide +kernel
theorem d_X12_placeIn_106 : decode cX12_placeIn 106 = .ok (.iconst (-1), 1) := by decide +kernel
theorem d_X12_placeIn_107 : decode cX12_placeIn 107 = .ok (.ireturn, 1) := by decide +kernel
set_option maxHeartbeats 4000000 in
set_option maxRecDepth 100000 in
theorem t_X12_placeIn_65 {X : XT_x} {G : GT_g} {z : Int} (C : Cx_ (K_X12_placeIn) X G) (hR : Rx_ X G (some .int)) (M : Mem_m) (x1 : Int) (x2 : Int) (x3 : Int) (x4 : Int) (x5 : Int) (x6 : Int) (x7 : Int) (o_x1 : ok_i x1) (o_x2 : ok_i x2) (o_x3 : ok_i x3) (o_x4 : ok_i x4) (o_x5 : ok_i x5) (o_x6 : ok_i x6) (o_x7 : ok_i x7) (k_12 : Int → Int → Int → Int → Option Int) (hk_12 : ∀ (x2 : Int) (x3 : Int) (x4 : Int) (x5 : Int) (o_x2 : ok_i x2) (o_x3 : ok_i x3) (o_x4 : ok_i x4) (o_x5 : ok_i x5), k_12 x2 x3 x4 x5 = some z → V_ (K_X12_placeIn) X G (Fq_ X G (Qi_ G M z)) M 12 [(1, iv_i x1), (2, iv_i x2), (3, iv_i x3), (4, iv_i x4), (5, iv_i x5)] []) (k_51 : Int → Int → Option Int) (hk_51 : ∀ (x6 : Int) (x7 : Int) (o_x6 : ok_i x6) (o_x7 : ok_i x7), k_51 x6 x7 = some z → V_ (K_X12_placeIn) X G (Fq_ X G (Qi_ G M z)) M 51 [(1, iv_i x1), (2, iv_i x2), (3, iv_i x3), (4, iv_i x4), (5, iv_i x5), (6, iv_i x6), (7, iv_i x7)] []) (h : f_X12_placeIn_65 G.2.2.2 k_12 k_51 M x1 x2 x3 x4 x5 x6 x7 = some z) : V_ (K_X12_placeIn) X G (Fq_ X G (Qi_ G M z)) M 65 [(1, iv_i x1), (2, iv_i x2), (3, iv_i x3), (4, iv_i x4), (5, iv_i x5), (6, iv_i x6), (7, iv_i x7)] [] := by
  unfold f_X12_placeIn_65 at h
  refine V_iload (j := 5) C d_X12_placeIn_65 rfl ?_
  refine V_iload_n (j := 2) C d_X12_placeIn_67 rfl rfl ?_
  refine V_iload (j := 6) C d_X12_placeIn_68 rfl ?_
  refine V_ishr C d_X12_placeIn_70 ?_
  refine V_iconst C d_X12_placeIn_71 ?_
  refine V_iand C d_X12_placeIn_72 ?_
  refine V_isub C d_X12_placeIn_73 ?_
  refine V_istore (lv' := [(6, iv_i (wr_i (x6 - (an_i (sr_i x3 x7) 1)))), (1, iv_i x1), (2, iv_i x2), (3, iv_i x3), (4, iv_i x4), (5, iv_i x5), (7, iv_i x7)]) C d_X12_placeIn_74 (by decide) rfl ?_
  refine V_iinc (j := 6) (lv' := [(7, iv_i (wr_i (x7 + 1))), (6, iv_i (wr_i (x6 - (an_i (sr_i x3 x7) 1)))), (1, iv_i x1), (2, iv_i x2), (3, iv_i x3), (4, iv_i x4), (5, iv_i x5)]) C d_X12_placeIn_76 rfl (by decide) rfl ?_
  refine V_goto (tgt := 51) C d_X12_placeIn_79 (by decide) ?_
  refine V_lv [2, 3, 4, 5, 6, 1, 0] rfl (hk_51 (wr_i (x6 - (an_i (sr_i x3 x7) 1))) (wr_i (x7 + 1)) (ok_wr _) (ok_wr _) h)
set_option maxHeartbeats 4000000 in
set_option maxRecDepth 100000 in
theorem t_X12_placeIn_51 {X : XT_x} {G : GT_g} {z : Int} (C : Cx_ (K_X12_placeIn) X G) (hR : Rx_ X G (some .int)) (M : Mem_m) (x1 : Int) (x2 : Int) (x3 : Int) (x4 : Int) (x5 : Int) (o_x1 : ok_i x1) (o_x2 : ok_i x2) (o_x3 : ok_i x3) (o_x4 : ok_i x4) (o_x5 : ok_i x5) (k_12 : Int → Int → Int → Int → Option Int) (hk_12 : ∀ (x2 : Int) (x3 : Int) (x4 : Int) (x5 : Int) (o_x2 : ok_i x2) (o_x3 : ok_i x3) (o_x4 : ok_i x4) (o_x5 : ok_i x5), k_12 x2 x3 x4 x5 = some z → V_ (K_X12_placeIn) X G (Fq_ X G (Qi_ G M z)) M 12 [(1, iv_i x1), (2, iv_i x2), (3, iv_i x3), (4, iv_i x4), (5, iv_i x5)] []) : ∀ (n : Nat) (x6 : Int) (x7 : Int) (o_x6 : ok_i x6) (o_x7 : ok_i x7), f_X12_placeIn_51 G.2.2.2 k_12 M x1 x2 x3 x4 x5 n x6 x7 = some z → V_ (K_X12_placeIn) X G (Fq_ X G (Qi_ G M z)) M 51 [(1, iv_i x1), (2, iv_i x2), (3, iv_i x3), (4, iv_i x4), (5, iv_i x5), (6, iv_i x6), (7, iv_i x7)] [] := by
  intro n
  induction n with
  | zero => intro x6 x7 o_x6 o_x7 h; exact absurd h (by simp [f_X12_placeIn_51])
  | succ n ih =>
    intro x6 x7 o_x6 o_x7 h
    unfold f_X12_placeIn_51 at h
    refine V_iload_n (j := 2) C d_X12_placeIn_51 rfl rfl ?_
    refine V_iload (j := 6) C d_X12_placeIn_52 rfl ?_
    refine V_ishr C d_X12_placeIn_54 ?_
    refine V_iconst C d_X12_placeIn_55 ?_
    refine V_iand C d_X12_placeIn_56 ?_
    refine V_if_eq (tgt := 65) C d_X12_placeIn_57 (by decide) (ok_I _) h (fun h => ?_) (fun h => ?_)
    · skip
      refine V_lv [0, 1, 2, 3, 4, 5, 6] rfl (t_X12_placeIn_65 C hR M x1 x2 x3 x4 x5 x6 x7 o_x1 o_x2 o_x3 o_x4 o_x5 o_x6 o_x7 k_12 hk_12 (fun x6 x7 => f_X12_placeIn_51 G.2.2.2 k_12 M x1 x2 x3 x4 x5 n x6 x7) (fun x6 x7 o_x6 o_x7 h9 => ih x6 x7 o_x6 o_x7 h9) h)
    · skip
      refine V_iload (j := 5) C d_X12_placeIn_60 rfl ?_
      refine V_if_le (tgt := 82) C d_X12_placeIn_62 (by decide) o_x6 h (fun h => ?_) (fun h => ?_)
      · skip
        refine V_iload (j := 6) C d_X12_placeIn_82 rfl ?_
        refine V_iload_n (j := 0) C d_X12_placeIn_84 rfl rfl ?_
        refine V_icmp_ne (tgt := 91) C d_X12_placeIn_85 (by decide) o_x7 o_x1 h (fun h => ?_) (fun h => ?_)
        · skip
          refine V_iload (j := 4) C d_X12_placeIn_88 rfl ?_
          exact V_iret_r C hR d_X12_placeIn_90 o_x5 h
        · skip
          refine V_iload_n (j := 2) C d_X12_placeIn_91 rfl rfl ?_
          refine V_iconst C d_X12_placeIn_92 ?_
          refine V_iload (j := 6) C d_X12_placeIn_93 rfl ?_
          refine V_ishl C d_X12_placeIn_95 ?_
          refine V_iconst C d_X12_placeIn_96 ?_
          refine V_ixor C d_X12_placeIn_97 ?_
          refine V_iand C d_X12_placeIn_98 ?_
          refine V_istore_n (lv' := [(3, iv_i (an_i x3 (xo_i (sl_i 1 x7) (-1)))), (1, iv_i x1), (2, iv_i x2), (4, iv_i x4), (5, iv_i x5), (6, iv_i x6), (7, iv_i x7)]) C d_X12_placeIn_99 rfl (by decide) rfl ?_
          refine V_iinc (j := 4) (lv' := [(5, iv_i (wr_i (x5 + 1))), (3, iv_i (an_i x3 (xo_i (sl_i 1 x7) (-1)))), (1, iv_i x1), (2, iv_i x2), (4, iv_i x4), (6, iv_i x6), (7, iv_i x7)]) C d_X12_placeIn_100 rfl (by decide) rfl ?_
          refine V_goto (tgt := 12) C d_X12_placeIn_103 (by decide) ?_
          refine V_lv [2, 3, 1, 4, 0] rfl (hk_12 x2 (an_i x3 (xo_i (sl_i 1 x7) (-1))) x4 (wr_i (x5 + 1)) o_x2 (ok_I _) o_x4 (ok_wr _) h)
      · skip
        refine V_lv [0, 1, 2, 3, 4, 5, 6] rfl (t_X12_placeIn_65 C hR M x1 x2 x3 x4 x5 x6 x7 o_x1 o_x2 o_x3 o_x4 o_x5 o_x6 o_x7 k_12 hk_12 (fun x6 x7 => f_X12_placeIn_51 G.2.2.2 k_12 M x1 x2 x3 x4 x5 n x6 x7) (fun x6 x7 o_x6 o_x7 h9 => ih x6 x7 o_x6 o_x7 h9) h)
set_option maxHeartbeats 4000000 in
set_option maxRecDepth 100000 in
theorem t_X12_placeIn_12 {X : XT_x} {G : GT_g} {z : Int} (C : Cx_ (K_X12_placeIn) X G) (hR : Rx_ X G (some .int)) (M : Mem_m) (x1 : Int) (o_x1 : ok_i x1) : ∀ (n : Nat) (x2 : Int) (x3 : Int) (x4 : Int) (x5 : Int) (o_x2 : ok_i x2) (o_x3 : ok_i x3) (o_x4 : ok_i x4) (o_x5 : ok_i x5), f_X12_placeIn_12 G.2.2.2 M x1 n x2 x3 x4 x5 = some z → V_ (K_X12_placeIn) X G (Fq_ X G (Qi_ G M z)) M 12 [(1, iv_i x1), (2, iv_i x2), (3, iv_i x3), (4, iv_i x4), (5, iv_i x5)] [] := by
  intro n
  induction n with
  | zero => intro x2 x3 x4 x5 o_x2 o_x3 o_x4 o_x5 h; exact absurd h (by simp [f_X12_placeIn_12])
  | succ n ih =>
    intro x2 x3 x4 x5 o_x2 o_x3 o_x4 o_x5 h
    unfold f_X12_placeIn_12 at h
    refine V_iload (j := 4) C d_X12_placeIn_12 rfl ?_
    refine V_iconst C d_X12_placeIn_14 ?_
    refine V_icmp_ge (tgt := 106) C d_X12_placeIn_15 (by decide) o_x5 (okc rfl) h (fun h => ?_) (fun h => ?_)
    · skip
      refine V_iload_n (j := 1) C d_X12_placeIn_18 rfl rfl ?_
      refine V_iload (j := 3) C d_X12_placeIn_19 rfl ?_
      refine V_idiv C d_X12_placeIn_21 o_x4 h (fun h => ?_)
      refine V_istore (lv' := [(6, iv_i (dv_i x2 x4)), (1, iv_i x1), (2, iv_i x2), (3, iv_i x3), (4, iv_i x4), (5, iv_i x5)]) C d_X12_placeIn_22 (by decide) rfl ?_
      refine V_iload_n (j := 2) C d_X12_placeIn_24 rfl rfl ?_
      refine V_iload (j := 4) C d_X12_placeIn_25 rfl ?_
      refine V_irem C d_X12_placeIn_27 o_x4 h (fun h => ?_)
      refine V_istore_n (lv' := [(2, iv_i (rm_i x2 x4)), (6, iv_i (dv_i x2 x4)), (1, iv_i x1), (3, iv_i x3), (4, iv_i x4), (5, iv_i x5)]) C d_X12_placeIn_28 rfl (by decide) rfl ?_
      refine V_iload (j := 5) C d_X12_placeIn_29 rfl ?_
      refine V_iconst C d_X12_placeIn_31 ?_
      refine V_icmp_ge (tgt := 45) C d_X12_placeIn_32 (by decide) o_x5 (okc rfl) h (fun h => ?_) (fun h => ?_)
      · skip
        refine V_iload (j := 4) C d_X12_placeIn_35 rfl ?_
        refine V_iconst C d_X12_placeIn_37 ?_
        refine V_iload (j := 5) C d_X12_placeIn_38 rfl ?_
        refine V_isub C d_X12_placeIn_40 ?_
        refine V_idiv C d_X12_placeIn_41 (ok_wr _) h (fun h => ?_)
        refine V_goto (tgt := 46) C d_X12_placeIn_42 (by decide) ?_
        refine V_istore (lv' := [(4, iv_i (dv_i x4 (wr_i (3 - x5)))), (2, iv_i (rm_i x2 x4)), (6, iv_i (dv_i x2 x4)), (1, iv_i x1), (3, iv_i x3), (5, iv_i x5)]) C d_X12_placeIn_46 (by decide) rfl ?_
        refine V_iconst C d_X12_placeIn_48 ?_
        refine V_istore (lv' := [(7, iv_i 0), (4, iv_i (dv_i x4 (wr_i (3 - x5)))), (2, iv_i (rm_i x2 x4)), (6, iv_i (dv_i x2 x4)), (1, iv_i x1), (3, iv_i x3), (5, iv_i x5)]) C d_X12_placeIn_49 (by decide) rfl ?_
        refine V_lv [4, 2, 5, 1, 6, 3, 0] rfl (t_X12_placeIn_51 C hR M x1 (rm_i x2 x4) x3 (dv_i x4 (wr_i (3 - x5))) x5 o_x1 (ok_I _) o_x3 (ok_I _) o_x5 (fun x2 x3 x4 x5 => f_X12_placeIn_12 G.2.2.2 M x1 n x2 x3 x4 x5) (fun x2 x3 x4 x5 o_x2 o_x3 o_x4 o_x5 h9 => ih x2 x3 x4 x5 o_x2 o_x3 o_x4 o_x5 h9) FU_ (dv_i x2 x4) 0 (ok_I _) (okc rfl) h)
      · skip
        refine V_iconst C d_X12_placeIn_45 ?_
        refine V_istore (lv' := [(4, iv_i 1), (2, iv_i (rm_i x2 x4)), (6, iv_i (dv_i x2 x4)), (1, iv_i x1), (3, iv_i x3), (5, iv_i x5)]) C d_X12_placeIn_46 (by decide) rfl ?_
        refine V_iconst C d_X12_placeIn_48 ?_
        refine V_istore (lv' := [(7, iv_i 0), (4, iv_i 1), (2, iv_i (rm_i x2 x4)), (6, iv_i (dv_i x2 x4)), (1, iv_i x1), (3, iv_i x3), (5, iv_i x5)]) C d_X12_placeIn_49 (by decide) rfl ?_
        refine V_lv [4, 2, 5, 1, 6, 3, 0] rfl (t_X12_placeIn_51 C hR M x1 (rm_i x2 x4) x3 1 x5 o_x1 (ok_I _) o_x3 (okc rfl) o_x5 (fun x2 x3 x4 x5 => f_X12_placeIn_12 G.2.2.2 M x1 n x2 x3 x4 x5) (fun x2 x3 x4 x5 o_x2 o_x3 o_x4 o_x5 h9 => ih x2 x3 x4 x5 o_x2 o_x3 o_x4 o_x5 h9) FU_ (dv_i x2 x4) 0 (ok_I _) (okc rfl) h)
    · skip
      refine V_iconst C d_X12_placeIn_106 ?_
      exact V_iret_r C hR d_X12_placeIn_107 (okc rfl) h
set_option maxHeartbeats 4000000 in
set_option maxRecDepth 100000 in
theorem t_X12_placeIn {X : XT_x} {G : GT_g} {M : Mem_m} {z : Int} (C : Cx_ (K_X12_placeIn) X G) (hR : Rx_ X G (some .int)) (x0 : Int) (x1 : Int) (o_x0 : ok_i x0) (o_x1 : ok_i x1) (h : f_X12_placeIn G.2.2.2 M x0 x1 = some z) : V_ (K_X12_placeIn) X G (Fq_ X G (Qi_ G M z)) M 0 [(0, iv_i x0), (1, iv_i x1)] [] := by
  unfold f_X12_placeIn at h
  refine V_iload_n (j := 0) C d_X12_placeIn_0 rfl rfl ?_
  refine V_istore_n (lv' := [(2, iv_i x0), (0, iv_i x0), (1, iv_i x1)]) C d_X12_placeIn_1 rfl (by decide) rfl ?_
  refine V_bipush (v := 15) C d_X12_placeIn_2 rfl ?_
  refine V_istore_n (lv' := [(3, iv_i 15), (2, iv_i x0), (0, iv_i x0), (1, iv_i x1)]) C d_X12_placeIn_4 rfl (by decide) rfl ?_
  refine V_bipush (v := 6) C d_X12_placeIn_5 rfl ?_
  refine V_istore (lv' := [(4, iv_i 6), (3, iv_i 15), (2, iv_i x0), (0, iv_i x0), (1, iv_i x1)]) C d_X12_placeIn_7 (by decide) rfl ?_
  refine V_iconst C d_X12_placeIn_9 ?_
  refine V_istore (lv' := [(5, iv_i 0), (4, iv_i 6), (3, iv_i 15), (2, iv_i x0), (0, iv_i x0), (1, iv_i x1)]) C d_X12_placeIn_10 (by decide) rfl ?_
  refine V_lv [5, 3, 2, 1, 0] rfl (t_X12_placeIn_12 C hR M x1 o_x1 FU_ x0 15 6 0 o_x0 (okc rfl) (okc rfl) (okc rfl) h)
set_option maxHeartbeats 4000000 in
set_option maxRecDepth 100000 in
theorem ct_X12_placeIn {l : Launch} {G : GT_g} {M : Mem_m} (x0 : Int) (x1 : Int) (o_x0 : ok_i x0) (o_x1 : ok_i x1) {z : Int} (h : f_X12_placeIn G.2.2.2 M x0 x1 = some z) : MI_ l yX12_placeIn K_X12_placeIn (some .int) G M [iv_i x0, iv_i x1] M z :=
  met_of (by decide +kernel) rfl (Nat.le_of_ble_eq_true rfl) (fun X hl C hR => by subst hl; exact t_X12_placeIn C hR x0 x1 o_x0 o_x1 h)
theorem d_X12_fitsOrder_0 : decode cX12_fitsOrder 0 = .ok (.iconst (-1), 1) := by decide +kernel
theorem d_X12_fitsOrder_1 : decode cX12_fitsOrder 1 = .ok (.istore_n 2, 1) := by decide +kernel
theorem d_X12_fitsOrder_2 : decode cX12_fitsOrder 2 = .ok (.iload_n 0, 1) := by decide +kernel
theorem d_X12_fitsOrder_3 : decode cX12_fitsOrder 3 = .ok (.istore_n 3, 1) := by decide +kernel
theorem d_X12_fitsOrder_4 : decode cX12_fitsOrder 4 = .ok (.iload_n 3, 1) := by decide +kernel
theorem d_X12_fitsOrder_5 : decode cX12_fitsOrder 5 = .ok (.ifCond .le 32, 3) := by decide +kernel
theorem d_X12_fitsOrder_8 : decode cX12_fitsOrder 8 = .ok (.iload_n 1, 1) := by decide +kernel
theorem d_X12_fitsOrder_9 : decode cX12_fitsOrder 9 = .ok (.iload_n 3, 1) := by decide +kernel
theorem d_X12_fitsOrder_10 : decode cX12_fitsOrder 10 = .ok (.iconst 5, 1) := by decide +kernel
theorem d_X12_fitsOrder_11 : decode cX12_fitsOrder 11 = .ok (.irem, 1) := by decide +kernel
theorem d_X12_fitsOrder_12 : decode cX12_fitsOrder 12 = .ok (.iconst 1, 1) := by decide +kernel
theorem d_X12_fitsOrder_13 : decode cX12_fitsOrder 13 = .ok (.isub, 1) := by decide +kernel
theorem d_X12_fitsOrder_14 : decode cX12_fitsOrder 14 = .ok (.invokestatic 218, 3) := by decide +kernel
theorem d_X12_fitsOrder_17 : decode cX12_fitsOrder 17 = .ok (.istore 4, 2) := by decide +kernel
theorem d_X12_fitsOrder_19 : decode cX12_fitsOrder 19 = .ok (.iload 4, 2) := by decide +kernel
theorem d_X12_fitsOrder_21 : decode cX12_fitsOrder 21 = .ok (.iload_n 2, 1) := by decide +kernel
theorem d_X12_fitsOrder_22 : decode cX12_fitsOrder 22 = .ok (.if_icmp .ge 5, 3) := by decide +kernel
theorem d_X12_fitsOrder_25 : decode cX12_fitsOrder 25 = .ok (.iconst 0, 1) := by decide +kernel
theorem d_X12_fitsOrder_26 : decode cX12_fitsOrder 26 = .ok (.ireturn, 1) := by decide +kernel
theorem d_X12_fitsOrder_27 : decode cX12_fitsOrder 27 = .ok (.iload 4, 2) := by decide +kernel
theorem d_X12_fitsOrder_29 : decode cX12_fitsOrder 29 = .ok (.istore_n 2, 1) := by decide +kernel
theorem d_X12_fitsOrder_30 : decode cX12_fitsOrder 30 = .ok (.iload_n 3, 1) := by decide +kernel
theorem d_X12_fitsOrder_31 : decode cX12_fitsOrder 31 = .ok (.iconst 5, 1) := by decide +kernel
theorem d_X12_fitsOrder_32 : decode cX12_fitsOrder 32 = .ok (.idiv, 1) := by decide +kernel
theorem d_X12_fitsOrder_33 : decode cX12_fitsOrder 33 = .ok (.istore_n 3, 1) := by decide +kernel
theorem d_X12_fitsOrder_34 : decode cX12_fitsOrder 34 = .ok (.goto (-30), 3) := by decide +kernel
theorem d_X12_fitsOrder_37 : decode cX12_fitsOrder 37 = .ok (.iconst 1, 1) := by decide +kernel
theorem d_X12_fitsOrder_38 : decode cX12_fitsOrder 38 = .ok (.ireturn, 1) := by decide +kernel
set_option maxHeartbeats 4000000 in
set_option maxRecDepth 100000 in
theorem t_X12_fitsOrder_4 {X : XT_x} {G : GT_g} {z : Int} (C : Cx_ (K_X12_fitsOrder) X G) (hR : Rx_ X G (some .boolean)) (M : Mem_m) (x1 : Int) (o_x1 : ok_i x1) : ∀ (n : Nat) (x2 : Int) (x3 : Int) (o_x2 : ok_i x2) (o_x3 : ok_i x3), f_X12_fitsOrder_4 G.2.2.2 M x1 n x2 x3 = some z → V_ (K_X12_fitsOrder) X G (Fq_ X G (Qi_ G M z)) M 4 [(1, iv_i x1), (2, iv_i x2), (3, iv_i x3)] [] := by
  intro n
  induction n with
  | zero => intro x2 x3 o_x2 o_x3 h; exact absurd h (by simp [f_X12_fitsOrder_4])
  | succ n ih =>
    intro x2 x3 o_x2 o_x3 h
    unfold f_X12_fitsOrder_4 at h
    refine V_iload_n (j := 2) C d_X12_fitsOrder_4 rfl rfl ?_
    refine V_if_le (tgt := 37) C d_X12_fitsOrder_5 (by decide) o_x3 h (fun h => ?_) (fun h => ?_)
    · skip
      refine V_iconst C d_X12_fitsOrder_37 ?_
      exact V_zret_r C hR d_X12_fitsOrder_38 (Or.inr rfl) h
    · skip
      refine V_iload_n (j := 0) C d_X12_fitsOrder_8 rfl rfl ?_
      refine V_iload_n (j := 2) C d_X12_fitsOrder_9 rfl rfl ?_
      refine V_iconst C d_X12_fitsOrder_10 ?_
      refine V_irem C d_X12_fitsOrder_11 (okc rfl) h (fun h => ?_)
      refine V_iconst C d_X12_fitsOrder_12 ?_
      refine V_isub C d_X12_fitsOrder_13 ?_
      refine V_callSri (K' := K_X12_placeIn) (av := [iv_i x1, iv_i (wr_i ((rm_i x3 5) - 1))]) (rest := []) ys_X12_placeIn C (yk_X12_placeIn) l1_X12_218 (by decide) d_X12_fitsOrder_14 (fun v hv => ct_X12_placeIn x1 (wr_i ((rm_i x3 5) - 1)) o_x1 (ok_wr _) hv) rfl rfl (Nat.le_of_ble_eq_true rfl) h (fun v1 o1 h => ?_)
      refine V_istore (lv' := [(4, iv_i v1), (1, iv_i x1), (2, iv_i x2), (3, iv_i x3)]) C d_X12_fitsOrder_17 (by decide) rfl ?_
      refine V_iload (j := 0) C d_X12_fitsOrder_19 rfl ?_
      refine V_iload_n (j := 2) C d_X12_fitsOrder_21 rfl rfl ?_
      refine V_icmp_ge (tgt := 27) C d_X12_fitsOrder_22 (by decide) o1 o_x2 h (fun h => ?_) (fun h => ?_)
      · skip
        refine V_iconst C d_X12_fitsOrder_25 ?_
        exact V_zret_r C hR d_X12_fitsOrder_26 (Or.inl rfl) h
      · skip
        refine V_iload (j := 0) C d_X12_fitsOrder_27 rfl ?_
        refine V_istore_n (lv' := [(2, iv_i v1), (4, iv_i v1), (1, iv_i x1), (3, iv_i x3)]) C d_X12_fitsOrder_29 rfl (by decide) rfl ?_
        refine V_iload_n (j := 3) C d_X12_fitsOrder_30 rfl rfl ?_
        refine V_iconst C d_X12_fitsOrder_31 ?_
        refine V_idiv C d_X12_fitsOrder_32 (okc rfl) h (fun h => ?_)
        refine V_istore_n (lv' := [(3, iv_i (dv_i x3 5)), (2, iv_i v1), (4, iv_i v1), (1, iv_i x1)]) C d_X12_fitsOrder_33 rfl (by decide) rfl ?_
        refine V_goto (tgt := 4) C d_X12_fitsOrder_34 (by decide) ?_
        refine V_lv [3, 1, 0] rfl (ih v1 (dv_i x3 5) o1 (ok_I _) h)
set_option maxHeartbeats 4000000 in
set_option maxRecDepth 100000 in
theorem t_X12_fitsOrder {X : XT_x} {G : GT_g} {M : Mem_m} {z : Int} (C : Cx_ (K_X12_fitsOrder) X G) (hR : Rx_ X G (some .boolean)) (x0 : Int) (x1 : Int) (o_x0 : ok_i x0) (o_x1 : ok_i x1) (h : f_X12_fitsOrder G.2.2.2 M x0 x1 = some z) : V_ (K_X12_fitsOrder) X G (Fq_ X G (Qi_ G M z)) M 0 [(0, iv_i x0), (1, iv_i x1)] [] := by
  unfold f_X12_fitsOrder at h
  refine V_iconst C d_X12_fitsOrder_0 ?_
  refine V_istore_n (lv' := [(2, iv_i (-1)), (0, iv_i x0), (1, iv_i x1)]) C d_X12_fitsOrder_1 rfl (by decide) rfl ?_
  refine V_iload_n (j := 1) C d_X12_fitsOrder_2 rfl rfl ?_
  refine V_istore_n (lv' := [(3, iv_i x0), (2, iv_i (-1)), (0, iv_i x0), (1, iv_i x1)]) C d_X12_fitsOrder_3 rfl (by decide) rfl ?_
  refine V_lv [3, 1, 0] rfl (t_X12_fitsOrder_4 C hR M x1 o_x1 FU_ (-1) x0 (okc rfl) o_x0 h)
set_option maxHeartbeats 4000000 in
set_option maxRecDepth 100000 in
theorem ct_X12_fitsOrder {l : Launch} {G : GT_g} {M : Mem_m} (x0 : Int) (x1 : Int) (o_x0 : ok_i x0) (o_x1 : ok_i x1) {z : Int} (h : f_X12_fitsOrder G.2.2.2 M x0 x1 = some z) : MI_ l yX12_fitsOrder K_X12_fitsOrder (some .boolean) G M [iv_i x0, iv_i x1] M z :=
  met_of (by decide +kernel) rfl (Nat.le_of_ble_eq_true rfl) (fun X hl C hR => by subst hl; exact t_X12_fitsOrder C hR x0 x1 o_x0 o_x1 h)
theorem d_X12_said_0 : decode cX12_said 0 = .ok (.iload_n 1, 1) := by decide +kernel
theorem d_X12_said_1 : decode cX12_said 1 = .ok (.invokestatic 75, 3) := by decide +kernel
theorem d_X12_said_4 : decode cX12_said 4 = .ok (.ifCond .eq 27, 3) := by decide +kernel
theorem d_X12_said_7 : decode cX12_said 7 = .ok (.iload_n 2, 1) := by decide +kernel
theorem d_X12_said_8 : decode cX12_said 8 = .ok (.i2l, 1) := by decide +kernel
theorem d_X12_said_9 : decode cX12_said 9 = .ok (.lconst 0, 1) := by decide +kernel
theorem d_X12_said_10 : decode cX12_said 10 = .ok (.ldc2_w 73, 3) := by decide +kernel
theorem d_X12_said_13 : decode cX12_said 13 = .ok (.invokestatic 69, 3) := by decide +kernel
theorem d_X12_said_16 : decode cX12_said 16 = .ok (.ifCond .eq 15, 3) := by decide +kernel
theorem d_X12_said_19 : decode cX12_said 19 = .ok (.iload_n 3, 1) := by decide +kernel
theorem d_X12_said_20 : decode cX12_said 20 = .ok (.i2l, 1) := by decide +kernel
theorem d_X12_said_21 : decode cX12_said 21 = .ok (.lconst 0, 1) := by decide +kernel
theorem d_X12_said_22 : decode cX12_said 22 = .ok (.ldc2_w 87, 3) := by decide +kernel
theorem d_X12_said_25 : decode cX12_said 25 = .ok (.invokestatic 69, 3) := by decide +kernel
theorem d_X12_said_28 : decode cX12_said 28 = .ok (.ifCond .ne 5, 3) := by decide +kernel
theorem d_X12_said_31 : decode cX12_said 31 = .ok (.iconst (-1), 1) := by decide +kernel
theorem d_X12_said_32 : decode cX12_said 32 = .ok (.ireturn, 1) := by decide +kernel
theorem d_X12_said_33 : decode cX12_said 33 = .ok (.aload_n 0, 1) := by decide +kernel
theorem d_X12_said_34 : decode cX12_said 34 = .ok (.getfield 9, 3) := by decide +kernel
theorem d_X12_said_37 : decode cX12_said 37 = .ok (.sipush 1065, 3) := by decide +kernel
theorem d_X12_said_40 : decode cX12_said 40 = .ok (.iaload, 1) := by decide +kernel
theorem d_X12_said_41 : decode cX12_said 41 = .ok (.bipush 20, 2) := by decide +kernel
theorem d_X12_said_43 : decode cX12_said 43 = .ok (.if_icmp .ne 6, 3) := by decide +kernel
theorem d_X12_said_46 : decode cX12_said 46 = .ok (.bipush (-2), 2) := by decide +kernel
theorem d_X12_said_48 : decode cX12_said 48 = .ok (.ireturn, 1) := by decide +kernel
theorem d_X12_said_49 : decode cX12_said 49 = .ok (.aload_n 0, 1) := by decide +kernel
theorem d_X12_said_50 : decode cX12_said 50 = .ok (.iload_n 1, 1) := by decide +kernel
theorem d_X12_said_51 : decode cX12_said 51 = .ok (.invokevirtual 221, 3) := by decide +kernel
theorem d_X12_said_54 : decode cX12_said 54 = .ok (.istore 5, 2) := by decide +kernel
theorem d_X12_said_56 : decode cX12_said 56 = .ok (.iload 5, 2) := by decide +kernel
theorem d_X12_said_58 : decode cX12_said 58 = .ok (.ifCond .eq 6, 3) := by decide +kernel
theorem d_X12_said_61 : decode cX12_said 61 = .ok (.iload 5, 2) := by decide +kernel
theorem d_X12_said_63 : decode cX12_said 63 = .ok (.ireturn, 1) := by decide +kernel
theorem d_X12_said_64 : decode cX12_said 64 = .ok (.sipush 776, 3) := by decide +kernel
theorem d_X12_said_67 : decode cX12_said 67 = .ok (.bipush 8, 2) := by decide +kernel
theorem d_X12_said_69 : decode cX12_said 69 = .ok (.aload_n 0, 1) := by decide +kernel
theorem d_X12_said_70 : decode cX12_said 70 = .ok (.getfield 9, 3) := by decide +kernel
theorem d_X12_said_73 : decode cX12_said 73 = .ok (.sipush 1065, 3) := by decide +kernel
theorem d_X12_said_76 : decode cX12_said 76 = .ok (.iaload, 1) := by decide +kernel
theorem d_X12_said_77 : decode cX12_said 77 = .ok (.imul, 1) := by decide +kernel
theorem d_X12_said_78 : decode cX12_said 78 = .ok (.iadd, 1) := by decide +kernel
theorem d_X12_said_79 : decode cX12_said 79 = .ok (.istore 6, 2) := by decide +kernel
theorem d_X12_said_81 : decode cX12_said 81 = .ok (.aload_n 0, 1) := by decide +kernel
theorem d_X12_said_82 : decode cX12_said 82 = .ok (.getfield 9, 3) := by decide +kernel
theorem d_X12_said_85 : decode cX12_said 85 = .ok (.iload 6, 2) := by decide +kernel
theorem d_X12_said_87 : decode cX12_said 87 = .ok (.aload_n 0, 1) := by decide +kernel
theorem d_X12_said_88 : decode cX12_said 88 = .ok (.iload_n 1, 1) := by decide +kernel
theorem d_X12_said_89 : decode cX12_said 89 = .ok (.invokevirtual 224, 3) := by decide +kernel
theorem d_X12_said_92 : decode cX12_said 92 = .ok (.iastore, 1) := by decide +kernel
theorem d_X12_said_93 : decode cX12_said 93 = .ok (.aload_n 0, 1) := by decide +kernel
theorem d_X12_said_94 : decode cX12_said 94 = .ok (.getfield 9, 3) := by decide +kernel
theorem d_X12_said_97 : decode cX12_said 97 = .ok (.iload 6, 2) := by decide +kernel
theorem d_X12_said_99 : decode cX12_said 99 = .ok (.iconst 5, 1) := by decide +kernel
theorem d_X12_said_100 : decode cX12_said 100 = .ok (.iadd, 1) := by decide +kernel
theorem d_X12_said_101 : decode cX12_said 101 = .ok (.iload_n 2, 1) := by decide +kernel
theorem d_X12_said_102 : decode cX12_said 102 = .ok (.iastore, 1) := by decide +kernel
theorem d_X12_said_103 : decode cX12_said 103 = .ok (.aload_n 0, 1) := by decide +kernel
theorem d_X12_said_104 : decode cX12_said 104 = .ok (.getfield 9, 3) := by decide +kernel
theorem d_X12_said_107 : decode cX12_said 107 = .ok (.iload 6, 2) := by decide +kernel
theorem d_X12_said_109 : decode cX12_said 109 = .ok (.bipush 6, 2) := by decide +kernel
theorem d_X12_said_111 : decode cX12_said 111 = .ok (.iadd, 1) := by decide +kernel
theorem d_X12_said_112 : decode cX12_said 112 = .ok (.iload_n 3, 1) := by decide +kernel
theorem d_X12_said_113 : decode cX12_said 113 = .ok (.iastore, 1) := by decide +kernel
theorem d_X12_said_114 : decode cX12_said 114 = .ok (.aload_n 0, 1) := by decide +kernel
theorem d_X12_said_115 : decode cX12_said 115 = .ok (.getfield 9, 3) := by decide +kernel
theorem d_X12_said_118 : decode cX12_said 118 = .ok (.iload 6, 2) := by decide +kernel
theorem d_X12_said_120 : decode cX12_said 120 = .ok (.bipush 7, 2) := by decide +kernel
theorem d_X12_said_122 : decode cX12_said 122 = .ok (.iadd, 1) := by decide +kernel
theorem d_X12_said_123 : decode cX12_said 123 = .ok (.iload 4, 2) := by decide +kernel
theorem d_X12_said_125 : decode cX12_said 125 = .ok (.ifCond .eq 7, 3) := by decide +kernel
theorem d_X12_said_128 : decode cX12_said 128 = .ok (.iconst 1, 1) := by decide +kernel
theorem d_X12_said_129 : decode cX12_said 129 = .ok (.goto 4, 3) := by decide +kernel
theorem d_X12_said_132 : decode cX12_said 132 = .ok (.iconst 0, 1) := by decide +kernel
theorem d_X12_said_133 : decode cX12_said 133 = .ok (.iastore, 1) := by decide +kernel
theorem d_X12_said_134 : decode cX12_said 134 = .ok (.aload_n 0, 1) := by decide +kernel
theorem d_X12_said_135 : decode cX12_said 135 = .ok (.getfield 9, 3) := by decide +kernel
theorem d_X12_said_138 : decode cX12_said 138 = .ok (.sipush 1065, 3) := by decide +kernel
theorem d_X12_said_141 : decode cX12_said 141 = .ok (.dup2, 1) := by decide +kernel
theorem d_X12_said_142 : decode cX12_said 142 = .ok (.iaload, 1) := by decide +kernel
theorem d_X12_said_143 : decode cX12_said 143 = .ok (.iconst 1, 1) := by decide +kernel
theorem d_X12_said_144 : decode cX12_said 144 = .ok (.iadd, 1) := by decide +kernel
theorem d_X12_said_145 : decode cX12_said 145 = .ok (.iastore, 1) := by decide +kernel
theorem d_X12_said_146 : decode cX12_said 146 = .ok (.aload_n 0, 1) := by decide +kernel
theorem d_X12_said_147 : decode cX12_said 147 = .ok (.getfield 9, 3) := by decide +kernel
theorem d_X12_said_150 : decode cX12_said 150 = .ok (.sipush 1065, 3) := by decide +kernel
theorem d_X12_said_153 : decode cX12_said 153 = .ok (.iaload, 1) := by decide +kernel
theorem d_X12_said_154 : decode cX12_said 154 = .ok (.iconst 1, 1) := by decide +kernel
theorem d_X12_said_155 : decode cX12_said 155 = .ok (.isub, 1) := by decide +kernel
theorem d_X12_said_156 : decode cX12_said 156 = .ok (.ireturn, 1) := by decide +kernel
set_option maxHeartbeats 4000000 in
set_option maxRecDepth 100000 in
theorem t_X12_said_133 {X : XT_x} {G : GT_g} {z : (Mem_m × Int)} (C : Cx_ (K_X12_said) X G) (hR : Rx_ X G (some .int)) (M : Mem_m) (x0 : Nat) (s0 : Int) (s1 : Int) (s2 : Nat) (o_s0 : ok_i s0) (o_s1 : ok_i s1) (h : f_X12_said_133 G.2.2.2 M x0 s0 s1 s2 = some z) : V_ (K_X12_said) X G (Fq_ X G (Qi_ G z.1 z.2)) M 133 [(0, .ref (G.1 + x0))] [iv_i s0, iv_i s1, .ref (G.1 + s2)] := by
  unfold f_X12_said_133 at h
  refine V_iast C d_X12_said_133 o_s1 o_s0 h (fun M1 h => ?_)
  refine V_aload_n (j := 0) C d_X12_said_134 rfl rfl ?_
  refine V_getR C ck_12 fw_X12_9 d_X12_said_135 h (fun v2 h => ?_)
  refine V_sipush (v := 1065) C d_X12_said_138 rfl ?_
  refine V_dup2 C d_X12_said_141 rfl rfl ?_
  refine V_iald C d_X12_said_142 (okc rfl) h (fun v3 o3 h => ?_)
  refine V_iconst C d_X12_said_143 ?_
  refine V_iadd C d_X12_said_144 ?_
  refine V_iast C d_X12_said_145 (okc rfl) (ok_wr _) h (fun M4 h => ?_)
  refine V_aload_n (j := 0) C d_X12_said_146 rfl rfl ?_
  refine V_getR C ck_12 fw_X12_9 d_X12_said_147 h (fun v5 h => ?_)
  refine V_sipush (v := 1065) C d_X12_said_150 rfl ?_
  refine V_iald C d_X12_said_153 (okc rfl) h (fun v6 o6 h => ?_)
  refine V_iconst C d_X12_said_154 ?_
  refine V_isub C d_X12_said_155 ?_
  exact V_iret_w C hR d_X12_said_156 (ok_wr _) h
set_option maxHeartbeats 4000000 in
set_option maxRecDepth 100000 in
theorem t_X12_said {X : XT_x} {G : GT_g} {M : Mem_m} {z : (Mem_m × Int)} (C : Cx_ (K_X12_said) X G) (hR : Rx_ X G (some .int)) (x0 : Nat) (x1 : Int) (x2 : Int) (x3 : Int) (x4 : Int) (o_x1 : ok_i x1) (o_x2 : ok_i x2) (o_x3 : ok_i x3) (o_x4 : ok_i x4) (h : f_X12_said G.2.2.2 M x0 x1 x2 x3 x4 = some z) : V_ (K_X12_said) X G (Fq_ X G (Qi_ G z.1 z.2)) M 0 [(0, .ref (G.1 + x0)), (1, iv_i x1), (2, iv_i x2), (3, iv_i x3), (4, iv_i x4)] [] := by
  unfold f_X12_said at h
  refine V_iload_n (j := 1) C d_X12_said_0 rfl rfl ?_
  refine V_callSri (K' := K_X12_isShelf) (av := [iv_i x1]) (rest := []) ys_X12_isShelf C (yk_X12_isShelf) l1_X12_75 (by decide) d_X12_said_1 (fun v hv => ct_X12_isShelf x1 o_x1 hv) rfl rfl (Nat.le_of_ble_eq_true rfl) h (fun v1 o1 h => ?_)
  refine V_if_eq (tgt := 31) C d_X12_said_4 (by decide) o1 h (fun h => ?_) (fun h => ?_)
  · skip
    refine V_iconst C d_X12_said_31 ?_
    exact V_iret_w C hR d_X12_said_32 (okc rfl) h
  · skip
    refine V_iload_n (j := 2) C d_X12_said_7 rfl rfl ?_
    refine V_i2l C d_X12_said_8 o_x2 ?_
    refine V_lconst0 C d_X12_said_9 ?_
    refine V_ldc2 (v := 7) C d_X12_said_10 cl_X12_73 ?_
    refine V_callSri (K' := K_X12_isIn) (av := [jv_i x2, jv_i 0, jv_i 7]) (rest := []) ys_X12_isIn C (yk_X12_isIn) l1_X12_69 (by decide) d_X12_said_13 (fun v hv => ct_X12_isIn x2 0 7 o_x2 (okc rfl) (okc rfl) hv) rfl rfl (Nat.le_of_ble_eq_true rfl) h (fun v2 o2 h => ?_)
    refine V_if_eq (tgt := 31) C d_X12_said_16 (by decide) o2 h (fun h => ?_) (fun h => ?_)
    · skip
      refine V_iconst C d_X12_said_31 ?_
      exact V_iret_w C hR d_X12_said_32 (okc rfl) h
    · skip
      refine V_iload_n (j := 3) C d_X12_said_19 rfl rfl ?_
      refine V_i2l C d_X12_said_20 o_x3 ?_
      refine V_lconst0 C d_X12_said_21 ?_
      refine V_ldc2 (v := 999) C d_X12_said_22 cl_X12_87 ?_
      refine V_callSri (K' := K_X12_isIn) (av := [jv_i x3, jv_i 0, jv_i 999]) (rest := []) ys_X12_isIn C (yk_X12_isIn) l1_X12_69 (by decide) d_X12_said_25 (fun v hv => ct_X12_isIn x3 0 999 o_x3 (okc rfl) (okc rfl) hv) rfl rfl (Nat.le_of_ble_eq_true rfl) h (fun v3 o3 h => ?_)
      refine V_if_ne (tgt := 33) C d_X12_said_28 (by decide) o3 h (fun h => ?_) (fun h => ?_)
      · skip
        refine V_iconst C d_X12_said_31 ?_
        exact V_iret_w C hR d_X12_said_32 (okc rfl) h
      · skip
        refine V_aload_n (j := 0) C d_X12_said_33 rfl rfl ?_
        refine V_getR C ck_12 fw_X12_9 d_X12_said_34 h (fun v4 h => ?_)
        refine V_sipush (v := 1065) C d_X12_said_37 rfl ?_
        refine V_iald C d_X12_said_40 (okc rfl) h (fun v5 o5 h => ?_)
        refine V_bipush (v := 20) C d_X12_said_41 rfl ?_
        refine V_icmp_ne (tgt := 49) C d_X12_said_43 (by decide) o5 (okc rfl) h (fun h => ?_) (fun h => ?_)
        · skip
          refine V_bipush (v := (-2)) C d_X12_said_46 rfl ?_
          exact V_iret_w C hR d_X12_said_48 (okc rfl) h
        · skip
          refine V_aload_n (j := 0) C d_X12_said_49 rfl rfl ?_
          refine V_iload_n (j := 1) C d_X12_said_50 rfl rfl ?_
          refine V_callVri (K' := K_X12_wrongParts) (a := x0) (ci := 12) (av := [iv_i x1]) (rest := []) yi_X12_wrongParts (by decide) rfl C (yk_X12_wrongParts) l1_X12_221 (by decide) d_X12_said_51 (fun v hv => ct_X12_wrongParts x0 x1 o_x1 hv) rfl rfl (Nat.le_of_ble_eq_true rfl) h (fun v6 o6 h => ?_)
          refine V_istore (lv' := [(5, iv_i v6), (0, .ref (G.1 + x0)), (1, iv_i x1), (2, iv_i x2), (3, iv_i x3), (4, iv_i x4)]) C d_X12_said_54 (by decide) rfl ?_
          refine V_iload (j := 0) C d_X12_said_56 rfl ?_
          refine V_if_eq (tgt := 64) C d_X12_said_58 (by decide) o6 h (fun h => ?_) (fun h => ?_)
          · skip
            refine V_sipush (v := 776) C d_X12_said_64 rfl ?_
            refine V_bipush (v := 8) C d_X12_said_67 rfl ?_
            refine V_aload_n (j := 1) C d_X12_said_69 rfl rfl ?_
            refine V_getR C ck_12 fw_X12_9 d_X12_said_70 h (fun v7 h => ?_)
            refine V_sipush (v := 1065) C d_X12_said_73 rfl ?_
            refine V_iald C d_X12_said_76 (okc rfl) h (fun v8 o8 h => ?_)
            refine V_imul C d_X12_said_77 ?_
            refine V_iadd C d_X12_said_78 ?_
            refine V_istore (lv' := [(6, iv_i (wr_i (776 + (wr_i (8 * v8))))), (5, iv_i v6), (0, .ref (G.1 + x0)), (1, iv_i x1), (2, iv_i x2), (3, iv_i x3), (4, iv_i x4)]) C d_X12_said_79 (by decide) rfl ?_
            refine V_aload_n (j := 2) C d_X12_said_81 rfl rfl ?_
            refine V_getR C ck_12 fw_X12_9 d_X12_said_82 h (fun v9 h => ?_)
            refine V_iload (j := 0) C d_X12_said_85 rfl ?_
            refine V_aload_n (j := 2) C d_X12_said_87 rfl rfl ?_
            refine V_iload_n (j := 3) C d_X12_said_88 rfl rfl ?_
            refine V_callVri (K' := K_X12_partsOf) (a := x0) (ci := 12) (av := [iv_i x1]) (rest := [iv_i (wr_i (776 + (wr_i (8 * v8)))), .ref (G.1 + v9)]) yi_X12_partsOf (by decide) rfl C (yk_X12_partsOf) l1_X12_224 (by decide) d_X12_said_89 (fun v hv => ct_X12_partsOf x0 x1 o_x1 hv) rfl rfl (Nat.le_of_ble_eq_true rfl) h (fun v10 o10 h => ?_)
            refine V_iast C d_X12_said_92 (ok_wr _) o10 h (fun M11 h => ?_)
            refine V_aload_n (j := 2) C d_X12_said_93 rfl rfl ?_
            refine V_getR C ck_12 fw_X12_9 d_X12_said_94 h (fun v12 h => ?_)
            refine V_iload (j := 0) C d_X12_said_97 rfl ?_
            refine V_iconst C d_X12_said_99 ?_
            refine V_iadd C d_X12_said_100 ?_
            refine V_iload_n (j := 4) C d_X12_said_101 rfl rfl ?_
            refine V_iast C d_X12_said_102 (ok_wr _) o_x2 h (fun M13 h => ?_)
            refine V_aload_n (j := 2) C d_X12_said_103 rfl rfl ?_
            refine V_getR C ck_12 fw_X12_9 d_X12_said_104 h (fun v14 h => ?_)
            refine V_iload (j := 0) C d_X12_said_107 rfl ?_
            refine V_bipush (v := 6) C d_X12_said_109 rfl ?_
            refine V_iadd C d_X12_said_111 ?_
            refine V_iload_n (j := 5) C d_X12_said_112 rfl rfl ?_
            refine V_iast C d_X12_said_113 (ok_wr _) o_x3 h (fun M15 h => ?_)
            refine V_aload_n (j := 2) C d_X12_said_114 rfl rfl ?_
            refine V_getR C ck_12 fw_X12_9 d_X12_said_115 h (fun v16 h => ?_)
            refine V_iload (j := 0) C d_X12_said_118 rfl ?_
            refine V_bipush (v := 7) C d_X12_said_120 rfl ?_
            refine V_iadd C d_X12_said_122 ?_
            refine V_iload (j := 6) C d_X12_said_123 rfl ?_
            refine V_if_eq (tgt := 132) C d_X12_said_125 (by decide) o_x4 h (fun h => ?_) (fun h => ?_)
            · skip
              refine V_iconst C d_X12_said_132 ?_
              refine V_lv [2] rfl (t_X12_said_133 C hR M15 x0 0 (wr_i ((wr_i (776 + (wr_i (8 * v8)))) + 7)) v16 (okc rfl) (ok_wr _) h)
            · skip
              refine V_iconst C d_X12_said_128 ?_
              refine V_goto (tgt := 133) C d_X12_said_129 (by decide) ?_
              refine V_lv [2] rfl (t_X12_said_133 C hR M15 x0 1 (wr_i ((wr_i (776 + (wr_i (8 * v8)))) + 7)) v16 (okc rfl) (ok_wr _) h)
          · skip
            refine V_iload (j := 0) C d_X12_said_61 rfl ?_
            exact V_iret_w C hR d_X12_said_63 o6 h
set_option maxHeartbeats 4000000 in
set_option maxRecDepth 100000 in
theorem ct_X12_said {l : Launch} {G : GT_g} {M : Mem_m} (x0 : Nat) (x1 : Int) (x2 : Int) (x3 : Int) (x4 : Int) (o_x1 : ok_i x1) (o_x2 : ok_i x2) (o_x3 : ok_i x3) (o_x4 : ok_i x4) {z : (Mem_m × Int)} (h : f_X12_said G.2.2.2 M x0 x1 x2 x3 x4 = some z) : MI_ l yX12_said K_X12_said (some .int) G M [.ref (G.1 + x0), iv_i x1, iv_i x2, iv_i x3, iv_i x4] z.1 z.2 :=
  met_of (by decide +kernel) rfl (Nat.le_of_ble_eq_true rfl) (fun X hl C hR => by subst hl; exact t_X12_said C hR x0 x1 x2 x3 x4 o_x1 o_x2 o_x3 o_x4 h)
theorem d_X12_isOf_0 : decode cX12_isOf 0 = .ok (.iload_n 2, 1) := by decide +kernel
theorem d_X12_isOf_1 : decode cX12_isOf 1 = .ok (.ifCond .lt 31, 3) := by decide +kernel
theorem d_X12_isOf_4 : decode cX12_isOf 4 = .ok (.aload_n 0, 1) := by decide +kernel
theorem d_X12_isOf_5 : decode cX12_isOf 5 = .ok (.getfield 9, 3) := by decide +kernel
theorem d_X12_isOf_8 : decode cX12_isOf 8 = .ok (.sipush 1046, 3) := by decide +kernel
theorem d_X12_isOf_11 : decode cX12_isOf 11 = .ok (.aload_n 0, 1) := by decide +kernel
theorem d_X12_isOf_12 : decode cX12_isOf 12 = .ok (.getfield 9, 3) := by decide +kernel
theorem d_X12_isOf_15 : decode cX12_isOf 15 = .ok (.sipush 776, 3) := by decide +kernel
theorem d_X12_isOf_18 : decode cX12_isOf 18 = .ok (.bipush 8, 2) := by decide +kernel
theorem d_X12_isOf_20 : decode cX12_isOf 20 = .ok (.iload_n 1, 1) := by decide +kernel
theorem d_X12_isOf_21 : decode cX12_isOf 21 = .ok (.imul, 1) := by decide +kernel
theorem d_X12_isOf_22 : decode cX12_isOf 22 = .ok (.iadd, 1) := by decide +kernel
theorem d_X12_isOf_23 : decode cX12_isOf 23 = .ok (.iconst 5, 1) := by decide +kernel
theorem d_X12_isOf_24 : decode cX12_isOf 24 = .ok (.iadd, 1) := by decide +kernel
theorem d_X12_isOf_25 : decode cX12_isOf 25 = .ok (.iaload, 1) := by decide +kernel
theorem d_X12_isOf_26 : decode cX12_isOf 26 = .ok (.iadd, 1) := by decide +kernel
theorem d_X12_isOf_27 : decode cX12_isOf 27 = .ok (.iaload, 1) := by decide +kernel
theorem d_X12_isOf_28 : decode cX12_isOf 28 = .ok (.iload_n 2, 1) := by decide +kernel
theorem d_X12_isOf_29 : decode cX12_isOf 29 = .ok (.if_icmp .ne 7, 3) := by decide +kernel
theorem d_X12_isOf_32 : decode cX12_isOf 32 = .ok (.iconst 1, 1) := by decide +kernel
theorem d_X12_isOf_33 : decode cX12_isOf 33 = .ok (.goto 4, 3) := by decide +kernel
theorem d_X12_isOf_36 : decode cX12_isOf 36 = .ok (.iconst 0, 1) := by decide +kernel
theorem d_X12_isOf_37 : decode cX12_isOf 37 = .ok (.ireturn, 1) := by decide +kernel
set_option maxHeartbeats 4000000 in
set_option maxRecDepth 100000 in
theorem t_X12_isOf {X : XT_x} {G : GT_g} {M : Mem_m} {z : Int} (C : Cx_ (K_X12_isOf) X G) (hR : Rx_ X G (some .boolean)) (x0 : Nat) (x1 : Int) (x2 : Int) (o_x1 : ok_i x1) (o_x2 : ok_i x2) (h : f_X12_isOf G.2.2.2 M x0 x1 x2 = some z) : V_ (K_X12_isOf) X G (Fq_ X G (Qi_ G M z)) M 0 [(0, .ref (G.1 + x0)), (1, iv_i x1), (2, iv_i x2)] [] := by
  unfold f_X12_isOf at h
  refine V_iload_n (j := 2) C d_X12_isOf_0 rfl rfl ?_
  refine V_if_lt (tgt := 32) C d_X12_isOf_1 (by decide) o_x2 h (fun h => ?_) (fun h => ?_)
  · skip
    refine V_iconst C d_X12_isOf_32 ?_
    refine V_goto (tgt := 37) C d_X12_isOf_33 (by decide) ?_
    exact V_zret_r C hR d_X12_isOf_37 (Or.inr rfl) h
  · skip
    refine V_aload_n (j := 0) C d_X12_isOf_4 rfl rfl ?_
    refine V_getR C ck_12 fw_X12_9 d_X12_isOf_5 h (fun v1 h => ?_)
    refine V_sipush (v := 1046) C d_X12_isOf_8 rfl ?_
    refine V_aload_n (j := 0) C d_X12_isOf_11 rfl rfl ?_
    refine V_getR C ck_12 fw_X12_9 d_X12_isOf_12 h (fun v2 h => ?_)
    refine V_sipush (v := 776) C d_X12_isOf_15 rfl ?_
    refine V_bipush (v := 8) C d_X12_isOf_18 rfl ?_
    refine V_iload_n (j := 1) C d_X12_isOf_20 rfl rfl ?_
    refine V_imul C d_X12_isOf_21 ?_
    refine V_iadd C d_X12_isOf_22 ?_
    refine V_iconst C d_X12_isOf_23 ?_
    refine V_iadd C d_X12_isOf_24 ?_
    refine V_iald C d_X12_isOf_25 (ok_wr _) h (fun v3 o3 h => ?_)
    refine V_iadd C d_X12_isOf_26 ?_
    refine V_iald C d_X12_isOf_27 (ok_wr _) h (fun v4 o4 h => ?_)
    refine V_iload_n (j := 2) C d_X12_isOf_28 rfl rfl ?_
    refine V_icmp_ne (tgt := 36) C d_X12_isOf_29 (by decide) o4 o_x2 h (fun h => ?_) (fun h => ?_)
    · skip
      refine V_iconst C d_X12_isOf_32 ?_
      refine V_goto (tgt := 37) C d_X12_isOf_33 (by decide) ?_
      exact V_zret_r C hR d_X12_isOf_37 (Or.inr rfl) h
    · skip
      refine V_iconst C d_X12_isOf_36 ?_
      exact V_zret_r C hR d_X12_isOf_37 (Or.inl rfl) h
set_option maxHeartbeats 4000000 in
set_option maxRecDepth 100000 in
theorem ct_X12_isOf {l : Launch} {G : GT_g} {M : Mem_m} (x0 : Nat) (x1 : Int) (x2 : Int) (o_x1 : ok_i x1) (o_x2 : ok_i x2) {z : Int} (h : f_X12_isOf G.2.2.2 M x0 x1 x2 = some z) : MI_ l yX12_isOf K_X12_isOf (some .boolean) G M [.ref (G.1 + x0), iv_i x1, iv_i x2] M z :=
  met_of (by decide +kernel) rfl (Nat.le_of_ble_eq_true rfl) (fun X hl C hR => by subst hl; exact t_X12_isOf C hR x0 x1 x2 o_x1 o_x2 h)
theorem d_X12_fitsSaid_0 : decode cX12_fitsSaid 0 = .ok (.aload_n 0, 1) := by decide +kernel
theorem d_X12_fitsSaid_1 : decode cX12_fitsSaid 1 = .ok (.getfield 9, 3) := by decide +kernel
theorem d_X12_fitsSaid_4 : decode cX12_fitsSaid 4 = .ok (.sipush 776, 3) := by decide +kernel
theorem d_X12_fitsSaid_7 : decode cX12_fitsSaid 7 = .ok (.bipush 8, 2) := by decide +kernel
theorem d_X12_fitsSaid_9 : decode cX12_fitsSaid 9 = .ok (.iload_n 1, 1) := by decide +kernel
theorem d_X12_fitsSaid_10 : decode cX12_fitsSaid 10 = .ok (.imul, 1) := by decide +kernel
theorem d_X12_fitsSaid_11 : decode cX12_fitsSaid 11 = .ok (.iadd, 1) := by decide +kernel
theorem d_X12_fitsSaid_12 : decode cX12_fitsSaid 12 = .ok (.iaload, 1) := by decide +kernel
theorem d_X12_fitsSaid_13 : decode cX12_fitsSaid 13 = .ok (.iload_n 2, 1) := by decide +kernel
theorem d_X12_fitsSaid_14 : decode cX12_fitsSaid 14 = .ok (.invokestatic 227, 3) := by decide +kernel
theorem d_X12_fitsSaid_17 : decode cX12_fitsSaid 17 = .ok (.aload_n 0, 1) := by decide +kernel
theorem d_X12_fitsSaid_18 : decode cX12_fitsSaid 18 = .ok (.getfield 9, 3) := by decide +kernel
theorem d_X12_fitsSaid_21 : decode cX12_fitsSaid 21 = .ok (.sipush 776, 3) := by decide +kernel
theorem d_X12_fitsSaid_24 : decode cX12_fitsSaid 24 = .ok (.bipush 8, 2) := by decide +kernel
theorem d_X12_fitsSaid_26 : decode cX12_fitsSaid 26 = .ok (.iload_n 1, 1) := by decide +kernel
theorem d_X12_fitsSaid_27 : decode cX12_fitsSaid 27 = .ok (.imul, 1) := by decide +kernel
theorem d_X12_fitsSaid_28 : decode cX12_fitsSaid 28 = .ok (.iadd, 1) := by decide +kernel
theorem d_X12_fitsSaid_29 : decode cX12_fitsSaid 29 = .ok (.bipush 7, 2) := by decide +kernel
theorem d_X12_fitsSaid_31 : decode cX12_fitsSaid 31 = .ok (.iadd, 1) := by decide +kernel
theorem d_X12_fitsSaid_32 : decode cX12_fitsSaid 32 = .ok (.iaload, 1) := by decide +kernel
theorem d_X12_fitsSaid_33 : decode cX12_fitsSaid 33 = .ok (.iconst 1, 1) := by decide +kernel
theorem d_X12_fitsSaid_34 : decode cX12_fitsSaid 34 = .ok (.if_icmp .ne 7, 3) := by decide +kernel
theorem d_X12_fitsSaid_37 : decode cX12_fitsSaid 37 = .ok (.iconst 1, 1) := by decide +kernel
theorem d_X12_fitsSaid_38 : decode cX12_fitsSaid 38 = .ok (.goto 4, 3) := by decide +kernel
theorem d_X12_fitsSaid_41 : decode cX12_fitsSaid 41 = .ok (.iconst 0, 1) := by decide +kernel
theorem d_X12_fitsSaid_42 : decode cX12_fitsSaid 42 = .ok (.if_icmp .ne 7, 3) := by decide +kernel
theorem d_X12_fitsSaid_45 : decode cX12_fitsSaid 45 = .ok (.iconst 1, 1) := by decide +kernel
theorem d_X12_fitsSaid_46 : decode cX12_fitsSaid 46 = .ok (.goto 4, 3) := by decide +kernel
theorem d_X12_fitsSaid_49 : decode cX12_fitsSaid 49 = .ok (.iconst 0, 1) := by decide +kernel
theorem d_X12_fitsSaid_50 : decode cX12_fitsSaid 50 = .ok (.ireturn, 1) := by decide +kernel
set_option maxHeartbeats 4000000 in
set_option maxRecDepth 100000 in
theorem t_X12_fitsSaid_42 {X : XT_x} {G : GT_g} {z : Int} (C : Cx_ (K_X12_fitsSaid) X G) (hR : Rx_ X G (some .boolean)) (M : Mem_m) (s0 : Int) (s1 : Int) (o_s0 : ok_i s0) (o_s1 : ok_i s1) (h : f_X12_fitsSaid_42 G.2.2.2 M s0 s1 = some z) : V_ (K_X12_fitsSaid) X G (Fq_ X G (Qi_ G M z)) M 42 [] [iv_i s0, iv_i s1] := by
  unfold f_X12_fitsSaid_42 at h
  refine V_icmp_ne (tgt := 49) C d_X12_fitsSaid_42 (by decide) o_s1 o_s0 h (fun h => ?_) (fun h => ?_)
  · skip
    refine V_iconst C d_X12_fitsSaid_45 ?_
    refine V_goto (tgt := 50) C d_X12_fitsSaid_46 (by decide) ?_
    exact V_zret_r C hR d_X12_fitsSaid_50 (Or.inr rfl) h
  · skip
    refine V_iconst C d_X12_fitsSaid_49 ?_
    exact V_zret_r C hR d_X12_fitsSaid_50 (Or.inl rfl) h
set_option maxHeartbeats 4000000 in
set_option maxRecDepth 100000 in
theorem t_X12_fitsSaid {X : XT_x} {G : GT_g} {M : Mem_m} {z : Int} (C : Cx_ (K_X12_fitsSaid) X G) (hR : Rx_ X G (some .boolean)) (x0 : Nat) (x1 : Int) (x2 : Int) (o_x1 : ok_i x1) (o_x2 : ok_i x2) (h : f_X12_fitsSaid G.2.2.2 M x0 x1 x2 = some z) : V_ (K_X12_fitsSaid) X G (Fq_ X G (Qi_ G M z)) M 0 [(0, .ref (G.1 + x0)), (1, iv_i x1), (2, iv_i x2)] [] := by
  unfold f_X12_fitsSaid at h
  refine V_aload_n (j := 0) C d_X12_fitsSaid_0 rfl rfl ?_
  refine V_getR C ck_12 fw_X12_9 d_X12_fitsSaid_1 h (fun v1 h => ?_)
  refine V_sipush (v := 776) C d_X12_fitsSaid_4 rfl ?_
  refine V_bipush (v := 8) C d_X12_fitsSaid_7 rfl ?_
  refine V_iload_n (j := 1) C d_X12_fitsSaid_9 rfl rfl ?_
  refine V_imul C d_X12_fitsSaid_10 ?_
  refine V_iadd C d_X12_fitsSaid_11 ?_
  refine V_iald C d_X12_fitsSaid_12 (ok_wr _) h (fun v2 o2 h => ?_)
  refine V_iload_n (j := 2) C d_X12_fitsSaid_13 rfl rfl ?_
  refine V_callSri (K' := K_X12_fitsOrder) (av := [iv_i v2, iv_i x2]) (rest := []) ys_X12_fitsOrder C (yk_X12_fitsOrder) l1_X12_227 (by decide) d_X12_fitsSaid_14 (fun v hv => ct_X12_fitsOrder v2 x2 o2 o_x2 hv) rfl rfl (Nat.le_of_ble_eq_true rfl) h (fun v3 o3 h => ?_)
  refine V_aload_n (j := 0) C d_X12_fitsSaid_17 rfl rfl ?_
  refine V_getR C ck_12 fw_X12_9 d_X12_fitsSaid_18 h (fun v4 h => ?_)
  refine V_sipush (v := 776) C d_X12_fitsSaid_21 rfl ?_
  refine V_bipush (v := 8) C d_X12_fitsSaid_24 rfl ?_
  refine V_iload_n (j := 1) C d_X12_fitsSaid_26 rfl rfl ?_
  refine V_imul C d_X12_fitsSaid_27 ?_
  refine V_iadd C d_X12_fitsSaid_28 ?_
  refine V_bipush (v := 7) C d_X12_fitsSaid_29 rfl ?_
  refine V_iadd C d_X12_fitsSaid_31 ?_
  refine V_iald C d_X12_fitsSaid_32 (ok_wr _) h (fun v5 o5 h => ?_)
  refine V_iconst C d_X12_fitsSaid_33 ?_
  refine V_icmp_ne (tgt := 41) C d_X12_fitsSaid_34 (by decide) o5 (okc rfl) h (fun h => ?_) (fun h => ?_)
  · skip
    refine V_iconst C d_X12_fitsSaid_37 ?_
    refine V_goto (tgt := 42) C d_X12_fitsSaid_38 (by decide) ?_
    refine V_lv [] rfl (t_X12_fitsSaid_42 C hR M 1 v3 (okc rfl) o3 h)
  · skip
    refine V_iconst C d_X12_fitsSaid_41 ?_
    refine V_lv [] rfl (t_X12_fitsSaid_42 C hR M 0 v3 (okc rfl) o3 h)
set_option maxHeartbeats 4000000 in
set_option maxRecDepth 100000 in
theorem ct_X12_fitsSaid {l : Launch} {G : GT_g} {M : Mem_m} (x0 : Nat) (x1 : Int) (x2 : Int) (o_x1 : ok_i x1) (o_x2 : ok_i x2) {z : Int} (h : f_X12_fitsSaid G.2.2.2 M x0 x1 x2 = some z) : MI_ l yX12_fitsSaid K_X12_fitsSaid (some .boolean) G M [.ref (G.1 + x0), iv_i x1, iv_i x2] M z :=
  met_of (by decide +kernel) rfl (Nat.le_of_ble_eq_true rfl) (fun X hl C hR => by subst hl; exact t_X12_fitsSaid C hR x0 x1 x2 o_x1 o_x2 h)
theorem d_X12_findSet_0 : decode cX12_findSet 0 = .ok (.iconst 0, 1) := by decide +kernel
theorem d_X12_findSet_1 : decode cX12_findSet 1 = .ok (.istore_n 2, 1) := by decide +kernel
theorem d_X12_findSet_2 : decode cX12_findSet 2 = .ok (.iconst 0, 1) := by decide +kernel
theorem d_X12_findSet_3 : decode cX12_findSet 3 = .ok (.istore_n 3, 1) := by decide +kernel
theorem d_X12_findSet_4 : decode cX12_findSet 4 = .ok (.iload_n 3, 1) := by decide +kernel
theorem d_X12_findSet_5 : decode cX12_findSet 5 = .ok (.bipush 24, 2) := by decide +kernel
theorem d_X12_findSet_7 : decode cX12_findSet 7 = .ok (.if_icmp .ge 95, 3) := by decide +kernel
theorem d_X12_findSet_10 : decode cX12_findSet 10 = .ok (.aload_n 0, 1) := by decide +kernel
theorem d_X12_findSet_11 : decode cX12_findSet 11 = .ok (.getfield 52, 3) := by decide +kernel
theorem d_X12_findSet_14 : decode cX12_findSet 14 = .ok (.iload_n 3, 1) := by decide +kernel
theorem d_X12_findSet_15 : decode cX12_findSet 15 = .ok (.iconst 1, 1) := by decide +kernel
theorem d_X12_findSet_16 : decode cX12_findSet 16 = .ok (.bastore, 1) := by decide +kernel
theorem d_X12_findSet_17 : decode cX12_findSet 17 = .ok (.iconst 0, 1) := by decide +kernel
theorem d_X12_findSet_18 : decode cX12_findSet 18 = .ok (.istore 4, 2) := by decide +kernel
theorem d_X12_findSet_20 : decode cX12_findSet 20 = .ok (.iload 4, 2) := by decide +kernel
theorem d_X12_findSet_22 : decode cX12_findSet 22 = .ok (.aload_n 0, 1) := by decide +kernel
theorem d_X12_findSet_23 : decode cX12_findSet 23 = .ok (.getfield 9, 3) := by decide +kernel
theorem d_X12_findSet_26 : decode cX12_findSet 26 = .ok (.sipush 1065, 3) := by decide +kernel
theorem d_X12_findSet_29 : decode cX12_findSet 29 = .ok (.iaload, 1) := by decide +kernel
theorem d_X12_findSet_30 : decode cX12_findSet 30 = .ok (.if_icmp .ge 49, 3) := by decide +kernel
theorem d_X12_findSet_33 : decode cX12_findSet 33 = .ok (.aload_n 0, 1) := by decide +kernel
theorem d_X12_findSet_34 : decode cX12_findSet 34 = .ok (.getfield 52, 3) := by decide +kernel
theorem d_X12_findSet_37 : decode cX12_findSet 37 = .ok (.iload_n 3, 1) := by decide +kernel
theorem d_X12_findSet_38 : decode cX12_findSet 38 = .ok (.aload_n 0, 1) := by decide +kernel
theorem d_X12_findSet_39 : decode cX12_findSet 39 = .ok (.getfield 52, 3) := by decide +kernel
theorem d_X12_findSet_42 : decode cX12_findSet 42 = .ok (.iload_n 3, 1) := by decide +kernel
theorem d_X12_findSet_43 : decode cX12_findSet 43 = .ok (.baload, 1) := by decide +kernel
theorem d_X12_findSet_44 : decode cX12_findSet 44 = .ok (.ifCond .eq 27, 3) := by decide +kernel
theorem d_X12_findSet_47 : decode cX12_findSet 47 = .ok (.aload_n 0, 1) := by decide +kernel
theorem d_X12_findSet_48 : decode cX12_findSet 48 = .ok (.iload 4, 2) := by decide +kernel
theorem d_X12_findSet_50 : decode cX12_findSet 50 = .ok (.iload_n 1, 1) := by decide +kernel
theorem d_X12_findSet_51 : decode cX12_findSet 51 = .ok (.invokevirtual 230, 3) := by decide +kernel
theorem d_X12_findSet_54 : decode cX12_findSet 54 = .ok (.ifCond .eq 13, 3) := by decide +kernel
theorem d_X12_findSet_57 : decode cX12_findSet 57 = .ok (.aload_n 0, 1) := by decide +kernel
theorem d_X12_findSet_58 : decode cX12_findSet 58 = .ok (.iload 4, 2) := by decide +kernel
theorem d_X12_findSet_60 : decode cX12_findSet 60 = .ok (.iload_n 3, 1) := by decide +kernel
theorem d_X12_findSet_61 : decode cX12_findSet 61 = .ok (.invokevirtual 233, 3) := by decide +kernel
theorem d_X12_findSet_64 : decode cX12_findSet 64 = .ok (.ifCond .eq 7, 3) := by decide +kernel
theorem d_X12_findSet_67 : decode cX12_findSet 67 = .ok (.iconst 1, 1) := by decide +kernel
theorem d_X12_findSet_68 : decode cX12_findSet 68 = .ok (.goto 4, 3) := by decide +kernel
theorem d_X12_findSet_71 : decode cX12_findSet 71 = .ok (.iconst 0, 1) := by decide +kernel
theorem d_X12_findSet_72 : decode cX12_findSet 72 = .ok (.bastore, 1) := by decide +kernel
theorem d_X12_findSet_73 : decode cX12_findSet 73 = .ok (.iinc 4 1, 3) := by decide +kernel
theorem d_X12_findSet_76 : decode cX12_findSet 76 = .ok (.goto (-56), 3) := by decide +kernel
theorem d_X12_findSet_79 : decode cX12_findSet 79 = .ok (.iload_n 2, 1) := by decide +kernel
theorem d_X12_findSet_80 : decode cX12_findSet 80 = .ok (.aload_n 0, 1) := by decide +kernel
theorem d_X12_findSet_81 : decode cX12_findSet 81 = .ok (.getfield 52, 3) := by decide +kernel
theorem d_X12_findSet_84 : decode cX12_findSet 84 = .ok (.iload_n 3, 1) := by decide +kernel
theorem d_X12_findSet_85 : decode cX12_findSet 85 = .ok (.baload, 1) := by decide +kernel
theorem d_X12_findSet_86 : decode cX12_findSet 86 = .ok (.ifCond .eq 7, 3) := by decide +kernel
theorem d_X12_findSet_89 : decode cX12_findSet 89 = .ok (.iconst 1, 1) := by decide +kernel
theorem d_X12_findSet_90 : decode cX12_findSet 90 = .ok (.goto 4, 3) := by decide +kernel
theorem d_X12_findSet_93 : decode cX12_findSet 93 = .ok (.iconst 0, 1) := by decide +kernel
theorem d_X12_findSet_94 : decode cX12_findSet 94 = .ok (.iadd, 1) := by decide +kernel
theorem d_X12_findSet_95 : decode cX12_findSet 95 = .ok (.istore_n 2, 1) := by decide +kernel
theorem d_X12_findSet_96 : decode cX12_findSet 96 = .ok (.iinc 3 1, 3) := by decide +kernel
theorem d_X12_findSet_99 : decode cX12_findSet 99 = .ok (.goto (-95), 3) := by decide +kernel
theorem d_X12_findSet_102 : decode cX12_findSet 102 = .ok (.iload_n 2, 1) := by decide +kernel
theorem d_X12_findSet_103 : decode cX12_findSet 103 = .ok (.ireturn, 1) := by decide +kernel
set_option maxHeartbeats 4000000 in
set_option maxRecDepth 100000 in
theorem t_X12_findSet_20 {X : XT_x} {G : GT_g} {z : (Mem_m × Int)} (C : Cx_ (K_X12_findSet) X G) (hR : Rx_ X G (some .int)) (x0 : Nat) (x1 : Int) (x2 : Int) (x3 : Int) (o_x1 : ok_i x1) (o_x2 : ok_i x2) (o_x3 : ok_i x3) (k_4 : Mem_m → Int → Int → Option (Mem_m × Int)) (hk_4 : ∀ (M : Mem_m) (x2 : Int) (x3 : Int) (o_x2 : ok_i x2) (o_x3 : ok_i x3), k_4 M x2 x3 = some z → V_ (K_X12_findSet) X G (Fq_ X G (Qi_ G z.1 z.2)) M 4 [(0, .ref (G.1 + x0)), (1, iv_i x1), (2, iv_i x2), (3, iv_i x3)] []) : ∀ (n : Nat) (M : Mem_m) (x4 : Int) (o_x4 : ok_i x4), f_X12_findSet_20 G.2.2.2 k_4 x0 x1 x2 x3 n M x4 = some z → V_ (K_X12_findSet) X G (Fq_ X G (Qi_ G z.1 z.2)) M 20 [(0, .ref (G.1 + x0)), (1, iv_i x1), (2, iv_i x2), (3, iv_i x3), (4, iv_i x4)] [] := by
  intro n
  induction n with
  | zero => intro M x4 o_x4 h; exact absurd h (by simp [f_X12_findSet_20])
  | succ n ih =>
    intro M x4 o_x4 h
    unfold f_X12_findSet_20 at h
    refine V_iload (j := 4) C d_X12_findSet_20 rfl ?_
    refine V_aload_n (j := 0) C d_X12_findSet_22 rfl rfl ?_
    refine V_getR C ck_12 fw_X12_9 d_X12_findSet_23 h (fun v1 h => ?_)
    refine V_sipush (v := 1065) C d_X12_findSet_26 rfl ?_
    refine V_iald C d_X12_findSet_29 (okc rfl) h (fun v2 o2 h => ?_)
    refine V_icmp_ge (tgt := 79) C d_X12_findSet_30 (by decide) o_x4 o2 h (fun h => ?_) (fun h => ?_)
    · skip
      refine V_aload_n (j := 0) C d_X12_findSet_33 rfl rfl ?_
      refine V_getR C ck_12 fw_X12_52 d_X12_findSet_34 h (fun v3 h => ?_)
      refine V_iload_n (j := 3) C d_X12_findSet_37 rfl rfl ?_
      refine V_aload_n (j := 0) C d_X12_findSet_38 rfl rfl ?_
      refine V_getR C ck_12 fw_X12_52 d_X12_findSet_39 h (fun v4 h => ?_)
      refine V_iload_n (j := 3) C d_X12_findSet_42 rfl rfl ?_
      refine V_zald C d_X12_findSet_43 o_x3 h (fun v5 o5 h => ?_)
      refine V_if_eq (tgt := 71) C d_X12_findSet_44 (by decide) o5 h (fun h => ?_) (fun h => ?_)
      · skip
        refine V_iconst C d_X12_findSet_71 ?_
        refine V_zast C d_X12_findSet_72 o_x3 (okc rfl) h (fun M6 h => ?_)
        refine V_iinc (j := 4) (lv' := [(4, iv_i (wr_i (x4 + 1))), (0, .ref (G.1 + x0)), (1, iv_i x1), (2, iv_i x2), (3, iv_i x3)]) C d_X12_findSet_73 rfl (by decide) rfl ?_
        refine V_goto (tgt := 20) C d_X12_findSet_76 (by decide) ?_
        refine V_lv [1, 2, 3, 4, 0] rfl (ih M6 (wr_i (x4 + 1)) (ok_wr _) h)
      · skip
        refine V_aload_n (j := 0) C d_X12_findSet_47 rfl rfl ?_
        refine V_iload (j := 4) C d_X12_findSet_48 rfl ?_
        refine V_iload_n (j := 1) C d_X12_findSet_50 rfl rfl ?_
        refine V_callVri (K' := K_X12_isOf) (a := x0) (ci := 12) (av := [iv_i x4, iv_i x1]) (rest := [iv_i x3, .ref (G.1 + v3)]) yi_X12_isOf (by decide) rfl C (yk_X12_isOf) l1_X12_230 (by decide) d_X12_findSet_51 (fun v hv => ct_X12_isOf x0 x4 x1 o_x4 o_x1 hv) rfl rfl (Nat.le_of_ble_eq_true rfl) h (fun v7 o7 h => ?_)
        refine V_if_eq (tgt := 67) C d_X12_findSet_54 (by decide) o7 h (fun h => ?_) (fun h => ?_)
        · skip
          refine V_iconst C d_X12_findSet_67 ?_
          refine V_goto (tgt := 72) C d_X12_findSet_68 (by decide) ?_
          refine V_zast C d_X12_findSet_72 o_x3 (okc rfl) h (fun M8 h => ?_)
          refine V_iinc (j := 4) (lv' := [(4, iv_i (wr_i (x4 + 1))), (0, .ref (G.1 + x0)), (1, iv_i x1), (2, iv_i x2), (3, iv_i x3)]) C d_X12_findSet_73 rfl (by decide) rfl ?_
          refine V_goto (tgt := 20) C d_X12_findSet_76 (by decide) ?_
          refine V_lv [1, 2, 3, 4, 0] rfl (ih M8 (wr_i (x4 + 1)) (ok_wr _) h)
        · skip
          refine V_aload_n (j := 0) C d_X12_findSet_57 rfl rfl ?_
          refine V_iload (j := 4) C d_X12_findSet_58 rfl ?_
          refine V_iload_n (j := 3) C d_X12_findSet_60 rfl rfl ?_
          refine V_callVri (K' := K_X12_fitsSaid) (a := x0) (ci := 12) (av := [iv_i x4, iv_i x3]) (rest := [iv_i x3, .ref (G.1 + v3)]) yi_X12_fitsSaid (by decide) rfl C (yk_X12_fitsSaid) l1_X12_233 (by decide) d_X12_findSet_61 (fun v hv => ct_X12_fitsSaid x0 x4 x3 o_x4 o_x3 hv) rfl rfl (Nat.le_of_ble_eq_true rfl) h (fun v9 o9 h => ?_)
          refine V_if_eq (tgt := 71) C d_X12_findSet_64 (by decide) o9 h (fun h => ?_) (fun h => ?_)
          · skip
            refine V_iconst C d_X12_findSet_71 ?_
            refine V_zast C d_X12_findSet_72 o_x3 (okc rfl) h (fun M10 h => ?_)
            refine V_iinc (j := 4) (lv' := [(4, iv_i (wr_i (x4 + 1))), (0, .ref (G.1 + x0)), (1, iv_i x1), (2, iv_i x2), (3, iv_i x3)]) C d_X12_findSet_73 rfl (by decide) rfl ?_
            refine V_goto (tgt := 20) C d_X12_findSet_76 (by decide) ?_
            refine V_lv [1, 2, 3, 4, 0] rfl (ih M10 (wr_i (x4 + 1)) (ok_wr _) h)
          · skip
            refine V_iconst C d_X12_findSet_67 ?_
            refine V_goto (tgt := 72) C d_X12_findSet_68 (by decide) ?_
            refine V_zast C d_X12_findSet_72 o_x3 (okc rfl) h (fun M11 h => ?_)
            refine V_iinc (j := 4) (lv' := [(4, iv_i (wr_i (x4 + 1))), (0, .ref (G.1 + x0)), (1, iv_i x1), (2, iv_i x2), (3, iv_i x3)]) C d_X12_findSet_73 rfl (by decide) rfl ?_
            refine V_goto (tgt := 20) C d_X12_findSet_76 (by decide) ?_
            refine V_lv [1, 2, 3, 4, 0] rfl (ih M11 (wr_i (x4 + 1)) (ok_wr _) h)
    · skip
      refine V_iload_n (j := 2) C d_X12_findSet_79 rfl rfl ?_
      refine V_aload_n (j := 0) C d_X12_findSet_80 rfl rfl ?_
      refine V_getR C ck_12 fw_X12_52 d_X12_findSet_81 h (fun v12 h => ?_)
      refine V_iload_n (j := 3) C d_X12_findSet_84 rfl rfl ?_
      refine V_zald C d_X12_findSet_85 o_x3 h (fun v13 o13 h => ?_)
      refine V_if_eq (tgt := 93) C d_X12_findSet_86 (by decide) o13 h (fun h => ?_) (fun h => ?_)
      · skip
        refine V_iconst C d_X12_findSet_93 ?_
        refine V_iadd C d_X12_findSet_94 ?_
        refine V_istore_n (lv' := [(2, iv_i (wr_i (x2 + 0))), (0, .ref (G.1 + x0)), (1, iv_i x1), (3, iv_i x3), (4, iv_i x4)]) C d_X12_findSet_95 rfl (by decide) rfl ?_
        refine V_iinc (j := 3) (lv' := [(3, iv_i (wr_i (x3 + 1))), (2, iv_i (wr_i (x2 + 0))), (0, .ref (G.1 + x0)), (1, iv_i x1), (4, iv_i x4)]) C d_X12_findSet_96 rfl (by decide) rfl ?_
        refine V_goto (tgt := 4) C d_X12_findSet_99 (by decide) ?_
        refine V_lv [2, 3, 1, 0] rfl (hk_4 M (wr_i (x2 + 0)) (wr_i (x3 + 1)) (ok_wr _) (ok_wr _) h)
      · skip
        refine V_iconst C d_X12_findSet_89 ?_
        refine V_goto (tgt := 94) C d_X12_findSet_90 (by decide) ?_
        refine V_iadd C d_X12_findSet_94 ?_
        refine V_istore_n (lv' := [(2, iv_i (wr_i (x2 + 1))), (0, .ref (G.1 + x0)), (1, iv_i x1), (3, iv_i x3), (4, iv_i x4)]) C d_X12_findSet_95 rfl (by decide) rfl ?_
        refine V_iinc (j := 3) (lv' := [(3, iv_i (wr_i (x3 + 1))), (2, iv_i (wr_i (x2 + 1))), (0, .ref (G.1 + x0)), (1, iv_i x1), (4, iv_i x4)]) C d_X12_findSet_96 rfl (by decide) rfl ?_
        refine V_goto (tgt := 4) C d_X12_findSet_99 (by decide) ?_
        refine V_lv [2, 3, 1, 0] rfl (hk_4 M (wr_i (x2 + 1)) (wr_i (x3 + 1)) (ok_wr _) (ok_wr _) h)
set_option maxHeartbeats 4000000 in
set_option maxRecDepth 100000 in
theorem t_X12_findSet_4 {X : XT_x} {G : GT_g} {z : (Mem_m × Int)} (C : Cx_ (K_X12_findSet) X G) (hR : Rx_ X G (some .int)) (x0 : Nat) (x1 : Int) (o_x1 : ok_i x1) : ∀ (n : Nat) (M : Mem_m) (x2 : Int) (x3 : Int) (o_x2 : ok_i x2) (o_x3 : ok_i x3), f_X12_findSet_4 G.2.2.2 x0 x1 n M x2 x3 = some z → V_ (K_X12_findSet) X G (Fq_ X G (Qi_ G z.1 z.2)) M 4 [(0, .ref (G.1 + x0)), (1, iv_i x1), (2, iv_i x2), (3, iv_i x3)] [] := by
  intro n
  induction n with
  | zero => intro M x2 x3 o_x2 o_x3 h; exact absurd h (by simp [f_X12_findSet_4])
  | succ n ih =>
    intro M x2 x3 o_x2 o_x3 h
    unfold f_X12_findSet_4 at h
    refine V_iload_n (j := 3) C d_X12_findSet_4 rfl rfl ?_
    refine V_bipush (v := 24) C d_X12_findSet_5 rfl ?_
    refine V_icmp_ge (tgt := 102) C d_X12_findSet_7 (by decide) o_x3 (okc rfl) h (fun h => ?_) (fun h => ?_)
    · skip
      refine V_aload_n (j := 0) C d_X12_findSet_10 rfl rfl ?_
      refine V_getR C ck_12 fw_X12_52 d_X12_findSet_11 h (fun v1 h => ?_)
      refine V_iload_n (j := 3) C d_X12_findSet_14 rfl rfl ?_
      refine V_iconst C d_X12_findSet_15 ?_
      refine V_zast C d_X12_findSet_16 o_x3 (okc rfl) h (fun M2 h => ?_)
      refine V_iconst C d_X12_findSet_17 ?_
      refine V_istore (lv' := [(4, iv_i 0), (0, .ref (G.1 + x0)), (1, iv_i x1), (2, iv_i x2), (3, iv_i x3)]) C d_X12_findSet_18 (by decide) rfl ?_
      refine V_lv [1, 2, 3, 4, 0] rfl (t_X12_findSet_20 C hR x0 x1 x2 x3 o_x1 o_x2 o_x3 (fun M x2 x3 => f_X12_findSet_4 G.2.2.2 x0 x1 n M x2 x3) (fun M x2 x3 o_x2 o_x3 h9 => ih M x2 x3 o_x2 o_x3 h9) FU_ M2 0 (okc rfl) h)
    · skip
      refine V_iload_n (j := 2) C d_X12_findSet_102 rfl rfl ?_
      exact V_iret_w C hR d_X12_findSet_103 o_x2 h
set_option maxHeartbeats 4000000 in
set_option maxRecDepth 100000 in
theorem t_X12_findSet {X : XT_x} {G : GT_g} {M : Mem_m} {z : (Mem_m × Int)} (C : Cx_ (K_X12_findSet) X G) (hR : Rx_ X G (some .int)) (x0 : Nat) (x1 : Int) (o_x1 : ok_i x1) (h : f_X12_findSet G.2.2.2 M x0 x1 = some z) : V_ (K_X12_findSet) X G (Fq_ X G (Qi_ G z.1 z.2)) M 0 [(0, .ref (G.1 + x0)), (1, iv_i x1)] [] := by
  unfold f_X12_findSet at h
  refine V_iconst C d_X12_findSet_0 ?_
  refine V_istore_n (lv' := [(2, iv_i 0), (0, .ref (G.1 + x0)), (1, iv_i x1)]) C d_X12_findSet_1 rfl (by decide) rfl ?_
  refine V_iconst C d_X12_findSet_2 ?_
  refine V_istore_n (lv' := [(3, iv_i 0), (2, iv_i 0), (0, .ref (G.1 + x0)), (1, iv_i x1)]) C d_X12_findSet_3 rfl (by decide) rfl ?_
  refine V_lv [2, 3, 1, 0] rfl (t_X12_findSet_4 C hR x0 x1 o_x1 FU_ M 0 0 (okc rfl) (okc rfl) h)
set_option maxHeartbeats 4000000 in
set_option maxRecDepth 100000 in
theorem ct_X12_findSet {l : Launch} {G : GT_g} {M : Mem_m} (x0 : Nat) (x1 : Int) (o_x1 : ok_i x1) {z : (Mem_m × Int)} (h : f_X12_findSet G.2.2.2 M x0 x1 = some z) : MI_ l yX12_findSet K_X12_findSet (some .int) G M [.ref (G.1 + x0), iv_i x1] z.1 z.2 :=
  met_of (by decide +kernel) rfl (Nat.le_of_ble_eq_true rfl) (fun X hl C hR => by subst hl; exact t_X12_findSet C hR x0 x1 o_x1 h)
theorem d_X12_isVillage_0 : decode cX12_isVillage 0 = .ok (.iload_n 0, 1) := by decide +kernel
theorem d_X12_isVillage_1 : decode cX12_isVillage 1 = .ok (.i2l, 1) := by decide +kernel
theorem d_X12_isVillage_2 : decode cX12_isVillage 2 = .ok (.ldc2_w 236, 3) := by decide +kernel
theorem d_X12_isVillage_5 : decode cX12_isVillage 5 = .ok (.ldc2_w 101, 3) := by decide +kernel
theorem d_X12_isVillage_8 : decode cX12_isVillage 8 = .ok (.invokestatic 69, 3) := by decide +kernel
theorem d_X12_isVillage_11 : decode cX12_isVillage 11 = .ok (.ireturn, 1) := by decide +kernel
set_option maxHeartbeats 4000000 in
set_option maxRecDepth 100000 in
theorem t_X12_isVillage {X : XT_x} {G : GT_g} {M : Mem_m} {z : Int} (C : Cx_ (K_X12_isVillage) X G) (hR : Rx_ X G (some .boolean)) (x0 : Int) (o_x0 : ok_i x0) (h : f_X12_isVillage G.2.2.2 M x0 = some z) : V_ (K_X12_isVillage) X G (Fq_ X G (Qi_ G M z)) M 0 [(0, iv_i x0)] [] := by
  unfold f_X12_isVillage at h
  refine V_iload_n (j := 0) C d_X12_isVillage_0 rfl rfl ?_
  refine V_i2l C d_X12_isVillage_1 o_x0 ?_
  refine V_ldc2 (v := (-1)) C d_X12_isVillage_2 cl_X12_236 ?_
  refine V_ldc2 (v := 3) C d_X12_isVillage_5 cl_X12_101 ?_
  refine V_callSri (K' := K_X12_isIn) (av := [jv_i x0, jv_i (-1), jv_i 3]) (rest := []) ys_X12_isIn C (yk_X12_isIn) l1_X12_69 (by decide) d_X12_isVillage_8 (fun v hv => ct_X12_isIn x0 (-1) 3 o_x0 (okc rfl) (okc rfl) hv) rfl rfl (Nat.le_of_ble_eq_true rfl) h (fun v1 o1 h => ?_)
  obtain ⟨hz, h⟩ := ite_z h
  exact V_zret_r C hR d_X12_isVillage_11 hz h
set_option maxHeartbeats 4000000 in
set_option maxRecDepth 100000 in
theorem ct_X12_isVillage {l : Launch} {G : GT_g} {M : Mem_m} (x0 : Int) (o_x0 : ok_i x0) {z : Int} (h : f_X12_isVillage G.2.2.2 M x0 = some z) : MI_ l yX12_isVillage K_X12_isVillage (some .boolean) G M [iv_i x0] M z :=
  met_of (by decide +kernel) rfl (Nat.le_of_ble_eq_true rfl) (fun X hl C hR => by subst hl; exact t_X12_isVillage C hR x0 o_x0 h)
theorem d_X12_orders_0 : decode cX12_orders 0 = .ok (.iload_n 1, 1) := by decide +kernel
theorem d_X12_orders_1 : decode cX12_orders 1 = .ok (.invokestatic 238, 3) := by decide +kernel
theorem d_X12_orders_4 : decode cX12_orders 4 = .ok (.ifCond .eq 8, 3) := by decide +kernel
theorem d_X12_orders_7 : decode cX12_orders 7 = .ok (.iload_n 2, 1) := by decide +kernel
theorem d_X12_orders_8 : decode cX12_orders 8 = .ok (.iconst (-1), 1) := by decide +kernel
theorem d_X12_orders_9 : decode cX12_orders 9 = .ok (.if_icmp .ge 5, 3) := by decide +kernel
theorem d_X12_orders_12 : decode cX12_orders 12 = .ok (.iconst (-1), 1) := by decide +kernel
theorem d_X12_orders_13 : decode cX12_orders 13 = .ok (.ireturn, 1) := by decide +kernel
theorem d_X12_orders_14 : decode cX12_orders 14 = .ok (.aload_n 0, 1) := by decide +kernel
theorem d_X12_orders_15 : decode cX12_orders 15 = .ok (.iload_n 1, 1) := by decide +kernel
theorem d_X12_orders_16 : decode cX12_orders 16 = .ok (.invokevirtual 241, 3) := by decide +kernel
theorem d_X12_orders_19 : decode cX12_orders 19 = .ok (.istore_n 3, 1) := by decide +kernel
theorem d_X12_orders_20 : decode cX12_orders 20 = .ok (.iload_n 2, 1) := by decide +kernel
theorem d_X12_orders_21 : decode cX12_orders 21 = .ok (.ifCond .ge 5, 3) := by decide +kernel
theorem d_X12_orders_24 : decode cX12_orders 24 = .ok (.iload_n 3, 1) := by decide +kernel
theorem d_X12_orders_25 : decode cX12_orders 25 = .ok (.ireturn, 1) := by decide +kernel
theorem d_X12_orders_26 : decode cX12_orders 26 = .ok (.iconst 0, 1) := by decide +kernel
theorem d_X12_orders_27 : decode cX12_orders 27 = .ok (.istore 4, 2) := by decide +kernel
theorem d_X12_orders_29 : decode cX12_orders 29 = .ok (.iconst 0, 1) := by decide +kernel
theorem d_X12_orders_30 : decode cX12_orders 30 = .ok (.istore 5, 2) := by decide +kernel
theorem d_X12_orders_32 : decode cX12_orders 32 = .ok (.iload 5, 2) := by decide +kernel
theorem d_X12_orders_34 : decode cX12_orders 34 = .ok (.bipush 24, 2) := by decide +kernel
theorem d_X12_orders_36 : decode cX12_orders 36 = .ok (.if_icmp .ge 34, 3) := by decide +kernel
theorem d_X12_orders_39 : decode cX12_orders 39 = .ok (.aload_n 0, 1) := by decide +kernel
theorem d_X12_orders_40 : decode cX12_orders 40 = .ok (.getfield 52, 3) := by decide +kernel
theorem d_X12_orders_43 : decode cX12_orders 43 = .ok (.iload 5, 2) := by decide +kernel
theorem d_X12_orders_45 : decode cX12_orders 45 = .ok (.baload, 1) := by decide +kernel
theorem d_X12_orders_46 : decode cX12_orders 46 = .ok (.ifCond .ne 6, 3) := by decide +kernel
theorem d_X12_orders_49 : decode cX12_orders 49 = .ok (.goto 15, 3) := by decide +kernel
theorem d_X12_orders_52 : decode cX12_orders 52 = .ok (.iload 4, 2) := by decide +kernel
theorem d_X12_orders_54 : decode cX12_orders 54 = .ok (.iload_n 2, 1) := by decide +kernel
theorem d_X12_orders_55 : decode cX12_orders 55 = .ok (.if_icmp .ne 6, 3) := by decide +kernel
theorem d_X12_orders_58 : decode cX12_orders 58 = .ok (.iload 5, 2) := by decide +kernel
theorem d_X12_orders_60 : decode cX12_orders 60 = .ok (.ireturn, 1) := by decide +kernel
theorem d_X12_orders_61 : decode cX12_orders 61 = .ok (.iinc 4 1, 3) := by decide +kernel
theorem d_X12_orders_64 : decode cX12_orders 64 = .ok (.iinc 5 1, 3) := by decide +kernel
theorem d_X12_orders_67 : decode cX12_orders 67 = .ok (.goto (-35), 3) := by decide +kernel
theorem d_X12_orders_70 : decode cX12_orders 70 = .ok (.bipush (-4), 2) := by decide +kernel
theorem d_X12_orders_72 : decode cX12_orders 72 = .ok (.ireturn, 1) := by decide +kernel
set_option maxHeartbeats 4000000 in
set_option maxRecDepth 100000 in
theorem t_X12_orders_32 {X : XT_x} {G : GT_g} {z : (Mem_m × Int)} (C : Cx_ (K_X12_orders) X G) (hR : Rx_ X G (some .int)) (M : Mem_m) (x0 : Nat) (x2 : Int) (o_x2 : ok_i x2) : ∀ (n : Nat) (x4 : Int) (x5 : Int) (o_x4 : ok_i x4) (o_x5 : ok_i x5), f_X12_orders_32 G.2.2.2 M x0 x2 n x4 x5 = some z → V_ (K_X12_orders) X G (Fq_ X G (Qi_ G z.1 z.2)) M 32 [(0, .ref (G.1 + x0)), (2, iv_i x2), (4, iv_i x4), (5, iv_i x5)] [] := by
  intro n
  induction n with
  | zero => intro x4 x5 o_x4 o_x5 h; exact absurd h (by simp [f_X12_orders_32])
  | succ n ih =>
    intro x4 x5 o_x4 o_x5 h
    unfold f_X12_orders_32 at h
    refine V_iload (j := 3) C d_X12_orders_32 rfl ?_
    refine V_bipush (v := 24) C d_X12_orders_34 rfl ?_
    refine V_icmp_ge (tgt := 70) C d_X12_orders_36 (by decide) o_x5 (okc rfl) h (fun h => ?_) (fun h => ?_)
    · skip
      refine V_aload_n (j := 0) C d_X12_orders_39 rfl rfl ?_
      refine V_getR C ck_12 fw_X12_52 d_X12_orders_40 h (fun v1 h => ?_)
      refine V_iload (j := 3) C d_X12_orders_43 rfl ?_
      refine V_zald C d_X12_orders_45 o_x5 h (fun v2 o2 h => ?_)
      refine V_if_ne (tgt := 52) C d_X12_orders_46 (by decide) o2 h (fun h => ?_) (fun h => ?_)
      · skip
        refine V_goto (tgt := 64) C d_X12_orders_49 (by decide) ?_
        refine V_iinc (j := 3) (lv' := [(5, iv_i (wr_i (x5 + 1))), (0, .ref (G.1 + x0)), (2, iv_i x2), (4, iv_i x4)]) C d_X12_orders_64 rfl (by decide) rfl ?_
        refine V_goto (tgt := 32) C d_X12_orders_67 (by decide) ?_
        refine V_lv [1, 2, 3, 0] rfl (ih x4 (wr_i (x5 + 1)) o_x4 (ok_wr _) h)
      · skip
        refine V_iload (j := 2) C d_X12_orders_52 rfl ?_
        refine V_iload_n (j := 1) C d_X12_orders_54 rfl rfl ?_
        refine V_icmp_ne (tgt := 61) C d_X12_orders_55 (by decide) o_x4 o_x2 h (fun h => ?_) (fun h => ?_)
        · skip
          refine V_iload (j := 3) C d_X12_orders_58 rfl ?_
          exact V_iret_w C hR d_X12_orders_60 o_x5 h
        · skip
          refine V_iinc (j := 2) (lv' := [(4, iv_i (wr_i (x4 + 1))), (0, .ref (G.1 + x0)), (2, iv_i x2), (5, iv_i x5)]) C d_X12_orders_61 rfl (by decide) rfl ?_
          refine V_iinc (j := 3) (lv' := [(5, iv_i (wr_i (x5 + 1))), (4, iv_i (wr_i (x4 + 1))), (0, .ref (G.1 + x0)), (2, iv_i x2)]) C d_X12_orders_64 rfl (by decide) rfl ?_
          refine V_goto (tgt := 32) C d_X12_orders_67 (by decide) ?_
          refine V_lv [2, 3, 1, 0] rfl (ih (wr_i (x4 + 1)) (wr_i (x5 + 1)) (ok_wr _) (ok_wr _) h)
    · skip
      refine V_bipush (v := (-4)) C d_X12_orders_70 rfl ?_
      exact V_iret_w C hR d_X12_orders_72 (okc rfl) h
set_option maxHeartbeats 4000000 in
set_option maxRecDepth 100000 in
theorem t_X12_orders {X : XT_x} {G : GT_g} {M : Mem_m} {z : (Mem_m × Int)} (C : Cx_ (K_X12_orders) X G) (hR : Rx_ X G (some .int)) (x0 : Nat) (x1 : Int) (x2 : Int) (o_x1 : ok_i x1) (o_x2 : ok_i x2) (h : f_X12_orders G.2.2.2 M x0 x1 x2 = some z) : V_ (K_X12_orders) X G (Fq_ X G (Qi_ G z.1 z.2)) M 0 [(0, .ref (G.1 + x0)), (1, iv_i x1), (2, iv_i x2)] [] := by
  unfold f_X12_orders at h
  refine V_iload_n (j := 1) C d_X12_orders_0 rfl rfl ?_
  refine V_callSri (K' := K_X12_isVillage) (av := [iv_i x1]) (rest := []) ys_X12_isVillage C (yk_X12_isVillage) l1_X12_238 (by decide) d_X12_orders_1 (fun v hv => ct_X12_isVillage x1 o_x1 hv) rfl rfl (Nat.le_of_ble_eq_true rfl) h (fun v1 o1 h => ?_)
  refine V_if_eq (tgt := 12) C d_X12_orders_4 (by decide) o1 h (fun h => ?_) (fun h => ?_)
  · skip
    refine V_iconst C d_X12_orders_12 ?_
    exact V_iret_w C hR d_X12_orders_13 (okc rfl) h
  · skip
    refine V_iload_n (j := 2) C d_X12_orders_7 rfl rfl ?_
    refine V_iconst C d_X12_orders_8 ?_
    refine V_icmp_ge (tgt := 14) C d_X12_orders_9 (by decide) o_x2 (okc rfl) h (fun h => ?_) (fun h => ?_)
    · skip
      refine V_iconst C d_X12_orders_12 ?_
      exact V_iret_w C hR d_X12_orders_13 (okc rfl) h
    · skip
      refine V_aload_n (j := 0) C d_X12_orders_14 rfl rfl ?_
      refine V_iload_n (j := 1) C d_X12_orders_15 rfl rfl ?_
      refine V_callVwi (K' := K_X12_findSet) (a := x0) (ci := 12) (av := [iv_i x1]) (rest := []) yi_X12_findSet (by decide) rfl C (yk_X12_findSet) l1_X12_241 (by decide) d_X12_orders_16 (fun v hv => ct_X12_findSet x0 x1 o_x1 hv) rfl rfl (Nat.le_of_ble_eq_true rfl) h (fun z2 o2 h => ?_)
      refine V_istore_n (lv' := [(3, iv_i z2.2), (0, .ref (G.1 + x0)), (1, iv_i x1), (2, iv_i x2)]) C d_X12_orders_19 rfl (by decide) rfl ?_
      refine V_iload_n (j := 3) C d_X12_orders_20 rfl rfl ?_
      refine V_if_ge (tgt := 26) C d_X12_orders_21 (by decide) o_x2 h (fun h => ?_) (fun h => ?_)
      · skip
        refine V_iload_n (j := 0) C d_X12_orders_24 rfl rfl ?_
        exact V_iret_w C hR d_X12_orders_25 o2 h
      · skip
        refine V_iconst C d_X12_orders_26 ?_
        refine V_istore (lv' := [(4, iv_i 0), (3, iv_i z2.2), (0, .ref (G.1 + x0)), (1, iv_i x1), (2, iv_i x2)]) C d_X12_orders_27 (by decide) rfl ?_
        refine V_iconst C d_X12_orders_29 ?_
        refine V_istore (lv' := [(5, iv_i 0), (4, iv_i 0), (3, iv_i z2.2), (0, .ref (G.1 + x0)), (1, iv_i x1), (2, iv_i x2)]) C d_X12_orders_30 (by decide) rfl ?_
        refine V_lv [3, 5, 1, 0] rfl (t_X12_orders_32 C hR z2.1 x0 x2 o_x2 FU_ 0 0 (okc rfl) (okc rfl) h)
set_option maxHeartbeats 4000000 in
set_option maxRecDepth 100000 in
theorem ct_X12_orders {l : Launch} {G : GT_g} {M : Mem_m} (x0 : Nat) (x1 : Int) (x2 : Int) (o_x1 : ok_i x1) (o_x2 : ok_i x2) {z : (Mem_m × Int)} (h : f_X12_orders G.2.2.2 M x0 x1 x2 = some z) : MI_ l yX12_orders K_X12_orders (some .int) G M [.ref (G.1 + x0), iv_i x1, iv_i x2] z.1 z.2 :=
  met_of (by decide +kernel) rfl (Nat.le_of_ble_eq_true rfl) (fun X hl C hR => by subst hl; exact t_X12_orders C hR x0 x1 x2 o_x1 o_x2 h)
theorem d_X12_fits_0 : decode cX12_fits 0 = .ok (.iload_n 1, 1) := by decide +kernel
theorem d_X12_fits_1 : decode cX12_fits 1 = .ok (.invokestatic 75, 3) := by decide +kernel
theorem d_X12_fits_4 : decode cX12_fits 4 = .ok (.ifCond .eq 15, 3) := by decide +kernel
theorem d_X12_fits_7 : decode cX12_fits 7 = .ok (.iload_n 2, 1) := by decide +kernel
theorem d_X12_fits_8 : decode cX12_fits 8 = .ok (.i2l, 1) := by decide +kernel
theorem d_X12_fits_9 : decode cX12_fits 9 = .ok (.lconst 0, 1) := by decide +kernel
theorem d_X12_fits_10 : decode cX12_fits 10 = .ok (.ldc2_w 244, 3) := by decide +kernel
theorem d_X12_fits_13 : decode cX12_fits 13 = .ok (.invokestatic 69, 3) := by decide +kernel
theorem d_X12_fits_16 : decode cX12_fits 16 = .ok (.ifCond .ne 5, 3) := by decide +kernel
theorem d_X12_fits_19 : decode cX12_fits 19 = .ok (.iconst (-1), 1) := by decide +kernel
theorem d_X12_fits_20 : decode cX12_fits 20 = .ok (.ireturn, 1) := by decide +kernel
theorem d_X12_fits_21 : decode cX12_fits 21 = .ok (.aload_n 0, 1) := by decide +kernel
theorem d_X12_fits_22 : decode cX12_fits 22 = .ok (.iload_n 1, 1) := by decide +kernel
theorem d_X12_fits_23 : decode cX12_fits 23 = .ok (.invokevirtual 221, 3) := by decide +kernel
theorem d_X12_fits_26 : decode cX12_fits 26 = .ok (.istore_n 3, 1) := by decide +kernel
theorem d_X12_fits_27 : decode cX12_fits 27 = .ok (.iload_n 3, 1) := by decide +kernel
theorem d_X12_fits_28 : decode cX12_fits 28 = .ok (.ifCond .eq 7, 3) := by decide +kernel
theorem d_X12_fits_31 : decode cX12_fits 31 = .ok (.iload_n 3, 1) := by decide +kernel
theorem d_X12_fits_32 : decode cX12_fits 32 = .ok (.goto 20, 3) := by decide +kernel
theorem d_X12_fits_35 : decode cX12_fits 35 = .ok (.aload_n 0, 1) := by decide +kernel
theorem d_X12_fits_36 : decode cX12_fits 36 = .ok (.iload_n 1, 1) := by decide +kernel
theorem d_X12_fits_37 : decode cX12_fits 37 = .ok (.invokevirtual 224, 3) := by decide +kernel
theorem d_X12_fits_40 : decode cX12_fits 40 = .ok (.iload_n 2, 1) := by decide +kernel
theorem d_X12_fits_41 : decode cX12_fits 41 = .ok (.invokestatic 227, 3) := by decide +kernel
theorem d_X12_fits_44 : decode cX12_fits 44 = .ok (.ifCond .eq 7, 3) := by decide +kernel
theorem d_X12_fits_47 : decode cX12_fits 47 = .ok (.iconst 1, 1) := by decide +kernel
theorem d_X12_fits_48 : decode cX12_fits 48 = .ok (.goto 4, 3) := by decide +kernel
theorem d_X12_fits_51 : decode cX12_fits 51 = .ok (.iconst 0, 1) := by decide +kernel
theorem d_X12_fits_52 : decode cX12_fits 52 = .ok (.ireturn, 1) := by decide +kernel
set_option maxHeartbeats 4000000 in
set_option maxRecDepth 100000 in
theorem t_X12_fits {X : XT_x} {G : GT_g} {M : Mem_m} {z : Int} (C : Cx_ (K_X12_fits) X G) (hR : Rx_ X G (some .int)) (x0 : Nat) (x1 : Int) (x2 : Int) (o_x1 : ok_i x1) (o_x2 : ok_i x2) (h : f_X12_fits G.2.2.2 M x0 x1 x2 = some z) : V_ (K_X12_fits) X G (Fq_ X G (Qi_ G M z)) M 0 [(0, .ref (G.1 + x0)), (1, iv_i x1), (2, iv_i x2)] [] := by
  unfold f_X12_fits at h
  refine V_iload_n (j := 1) C d_X12_fits_0 rfl rfl ?_
  refine V_callSri (K' := K_X12_isShelf) (av := [iv_i x1]) (rest := []) ys_X12_isShelf C (yk_X12_isShelf) l1_X12_75 (by decide) d_X12_fits_1 (fun v hv => ct_X12_isShelf x1 o_x1 hv) rfl rfl (Nat.le_of_ble_eq_true rfl) h (fun v1 o1 h => ?_)
  refine V_if_eq (tgt := 19) C d_X12_fits_4 (by decide) o1 h (fun h => ?_) (fun h => ?_)
  · skip
    refine V_iconst C d_X12_fits_19 ?_
    exact V_iret_r C hR d_X12_fits_20 (okc rfl) h
  · skip
    refine V_iload_n (j := 2) C d_X12_fits_7 rfl rfl ?_
    refine V_i2l C d_X12_fits_8 o_x2 ?_
    refine V_lconst0 C d_X12_fits_9 ?_
    refine V_ldc2 (v := 23) C d_X12_fits_10 cl_X12_244 ?_
    refine V_callSri (K' := K_X12_isIn) (av := [jv_i x2, jv_i 0, jv_i 23]) (rest := []) ys_X12_isIn C (yk_X12_isIn) l1_X12_69 (by decide) d_X12_fits_13 (fun v hv => ct_X12_isIn x2 0 23 o_x2 (okc rfl) (okc rfl) hv) rfl rfl (Nat.le_of_ble_eq_true rfl) h (fun v2 o2 h => ?_)
    refine V_if_ne (tgt := 21) C d_X12_fits_16 (by decide) o2 h (fun h => ?_) (fun h => ?_)
    · skip
      refine V_iconst C d_X12_fits_19 ?_
      exact V_iret_r C hR d_X12_fits_20 (okc rfl) h
    · skip
      refine V_aload_n (j := 0) C d_X12_fits_21 rfl rfl ?_
      refine V_iload_n (j := 1) C d_X12_fits_22 rfl rfl ?_
      refine V_callVri (K' := K_X12_wrongParts) (a := x0) (ci := 12) (av := [iv_i x1]) (rest := []) yi_X12_wrongParts (by decide) rfl C (yk_X12_wrongParts) l1_X12_221 (by decide) d_X12_fits_23 (fun v hv => ct_X12_wrongParts x0 x1 o_x1 hv) rfl rfl (Nat.le_of_ble_eq_true rfl) h (fun v3 o3 h => ?_)
      refine V_istore_n (lv' := [(3, iv_i v3), (0, .ref (G.1 + x0)), (1, iv_i x1), (2, iv_i x2)]) C d_X12_fits_26 rfl (by decide) rfl ?_
      refine V_iload_n (j := 0) C d_X12_fits_27 rfl rfl ?_
      refine V_if_eq (tgt := 35) C d_X12_fits_28 (by decide) o3 h (fun h => ?_) (fun h => ?_)
      · skip
        refine V_aload_n (j := 1) C d_X12_fits_35 rfl rfl ?_
        refine V_iload_n (j := 2) C d_X12_fits_36 rfl rfl ?_
        refine V_callVri (K' := K_X12_partsOf) (a := x0) (ci := 12) (av := [iv_i x1]) (rest := []) yi_X12_partsOf (by decide) rfl C (yk_X12_partsOf) l1_X12_224 (by decide) d_X12_fits_37 (fun v hv => ct_X12_partsOf x0 x1 o_x1 hv) rfl rfl (Nat.le_of_ble_eq_true rfl) h (fun v4 o4 h => ?_)
        refine V_iload_n (j := 3) C d_X12_fits_40 rfl rfl ?_
        refine V_callSri (K' := K_X12_fitsOrder) (av := [iv_i v4, iv_i x2]) (rest := []) ys_X12_fitsOrder C (yk_X12_fitsOrder) l1_X12_227 (by decide) d_X12_fits_41 (fun v hv => ct_X12_fitsOrder v4 x2 o4 o_x2 hv) rfl rfl (Nat.le_of_ble_eq_true rfl) h (fun v5 o5 h => ?_)
        refine V_if_eq (tgt := 51) C d_X12_fits_44 (by decide) o5 h (fun h => ?_) (fun h => ?_)
        · skip
          refine V_iconst C d_X12_fits_51 ?_
          exact V_iret_r C hR d_X12_fits_52 (okc rfl) h
        · skip
          refine V_iconst C d_X12_fits_47 ?_
          refine V_goto (tgt := 52) C d_X12_fits_48 (by decide) ?_
          exact V_iret_r C hR d_X12_fits_52 (okc rfl) h
      · skip
        refine V_iload_n (j := 0) C d_X12_fits_31 rfl rfl ?_
        refine V_goto (tgt := 52) C d_X12_fits_32 (by decide) ?_
        exact V_iret_r C hR d_X12_fits_52 o3 h
set_option maxHeartbeats 4000000 in
set_option maxRecDepth 100000 in
theorem ct_X12_fits {l : Launch} {G : GT_g} {M : Mem_m} (x0 : Nat) (x1 : Int) (x2 : Int) (o_x1 : ok_i x1) (o_x2 : ok_i x2) {z : Int} (h : f_X12_fits G.2.2.2 M x0 x1 x2 = some z) : MI_ l yX12_fits K_X12_fits (some .int) G M [.ref (G.1 + x0), iv_i x1, iv_i x2] M z :=
  met_of (by decide +kernel) rfl (Nat.le_of_ble_eq_true rfl) (fun X hl C hR => by subst hl; exact t_X12_fits C hR x0 x1 x2 o_x1 o_x2 h)
theorem d_X12_tries_0 : decode cX12_tries 0 = .ok (.iconst 0, 1) := by decide +kernel
theorem d_X12_tries_1 : decode cX12_tries 1 = .ok (.istore_n 3, 1) := by decide +kernel
theorem d_X12_tries_2 : decode cX12_tries 2 = .ok (.iconst 0, 1) := by decide +kernel
theorem d_X12_tries_3 : decode cX12_tries 3 = .ok (.istore 4, 2) := by decide +kernel
theorem d_X12_tries_5 : decode cX12_tries 5 = .ok (.iload 4, 2) := by decide +kernel
theorem d_X12_tries_7 : decode cX12_tries 7 = .ok (.bipush 24, 2) := by decide +kernel
theorem d_X12_tries_9 : decode cX12_tries 9 = .ok (.if_icmp .ge 36, 3) := by decide +kernel
theorem d_X12_tries_12 : decode cX12_tries 12 = .ok (.iload_n 3, 1) := by decide +kernel
theorem d_X12_tries_13 : decode cX12_tries 13 = .ok (.aload_n 0, 1) := by decide +kernel
theorem d_X12_tries_14 : decode cX12_tries 14 = .ok (.getfield 52, 3) := by decide +kernel
theorem d_X12_tries_17 : decode cX12_tries 17 = .ok (.iload 4, 2) := by decide +kernel
theorem d_X12_tries_19 : decode cX12_tries 19 = .ok (.baload, 1) := by decide +kernel
theorem d_X12_tries_20 : decode cX12_tries 20 = .ok (.ifCond .eq 16, 3) := by decide +kernel
theorem d_X12_tries_23 : decode cX12_tries 23 = .ok (.iload_n 1, 1) := by decide +kernel
theorem d_X12_tries_24 : decode cX12_tries 24 = .ok (.iload 4, 2) := by decide +kernel
theorem d_X12_tries_26 : decode cX12_tries 26 = .ok (.invokestatic 227, 3) := by decide +kernel
theorem d_X12_tries_29 : decode cX12_tries 29 = .ok (.ifCond .eq 7, 3) := by decide +kernel
theorem d_X12_tries_32 : decode cX12_tries 32 = .ok (.iconst 1, 1) := by decide +kernel
theorem d_X12_tries_33 : decode cX12_tries 33 = .ok (.goto 4, 3) := by decide +kernel
theorem d_X12_tries_36 : decode cX12_tries 36 = .ok (.iconst 0, 1) := by decide +kernel
theorem d_X12_tries_37 : decode cX12_tries 37 = .ok (.iadd, 1) := by decide +kernel
theorem d_X12_tries_38 : decode cX12_tries 38 = .ok (.istore_n 3, 1) := by decide +kernel
theorem d_X12_tries_39 : decode cX12_tries 39 = .ok (.iinc 4 1, 3) := by decide +kernel
theorem d_X12_tries_42 : decode cX12_tries 42 = .ok (.goto (-37), 3) := by decide +kernel
theorem d_X12_tries_45 : decode cX12_tries 45 = .ok (.iload_n 3, 1) := by decide +kernel
theorem d_X12_tries_46 : decode cX12_tries 46 = .ok (.iload_n 2, 1) := by decide +kernel
theorem d_X12_tries_47 : decode cX12_tries 47 = .ok (.iload_n 3, 1) := by decide +kernel
theorem d_X12_tries_48 : decode cX12_tries 48 = .ok (.isub, 1) := by decide +kernel
theorem d_X12_tries_49 : decode cX12_tries 49 = .ok (.if_icmp .le 7, 3) := by decide +kernel
theorem d_X12_tries_52 : decode cX12_tries 52 = .ok (.iload_n 3, 1) := by decide +kernel
theorem d_X12_tries_53 : decode cX12_tries 53 = .ok (.goto 6, 3) := by decide +kernel
theorem d_X12_tries_56 : decode cX12_tries 56 = .ok (.iload_n 2, 1) := by decide +kernel
theorem d_X12_tries_57 : decode cX12_tries 57 = .ok (.iload_n 3, 1) := by decide +kernel
theorem d_X12_tries_58 : decode cX12_tries 58 = .ok (.isub, 1) := by decide +kernel
theorem d_X12_tries_59 : decode cX12_tries 59 = .ok (.istore 4, 2) := by decide +kernel
theorem d_X12_tries_61 : decode cX12_tries 61 = .ok (.iload 4, 2) := by decide +kernel
theorem d_X12_tries_63 : decode cX12_tries 63 = .ok (.aload_n 0, 1) := by decide +kernel
theorem d_X12_tries_64 : decode cX12_tries 64 = .ok (.getfield 246, 3) := by decide +kernel
theorem d_X12_tries_67 : decode cX12_tries 67 = .ok (.if_icmp .lt 4, 3) := by decide +kernel
theorem d_X12_tries_70 : decode cX12_tries 70 = .ok (.return_, 1) := by decide +kernel
theorem d_X12_tries_71 : decode cX12_tries 71 = .ok (.aload_n 0, 1) := by decide +kernel
theorem d_X12_tries_72 : decode cX12_tries 72 = .ok (.iload 4, 2) := by decide +kernel
theorem d_X12_tries_74 : decode cX12_tries 74 = .ok (.putfield 246, 3) := by decide +kernel
theorem d_X12_tries_77 : decode cX12_tries 77 = .ok (.aload_n 0, 1) := by decide +kernel
theorem d_X12_tries_78 : decode cX12_tries 78 = .ok (.iload_n 1, 1) := by decide +kernel
theorem d_X12_tries_79 : decode cX12_tries 79 = .ok (.putfield 249, 3) := by decide +kernel
theorem d_X12_tries_82 : decode cX12_tries 82 = .ok (.return_, 1) := by decide +kernel
set_option maxHeartbeats 4000000 in
set_option maxRecDepth 100000 in
theorem t_X12_tries_59 {X : XT_x} {G : GT_g} {z : Mem_m} (C : Cx_ (K_X12_tries) X G) (hR : Rx_ X G none) (M : Mem_m) (x0 : Nat) (x1 : Int) (s0 : Int) (o_x1 : ok_i x1) (o_s0 : ok_i s0) (h : f_X12_tries_59 G.2.2.2 M x0 x1 s0 = some z) : V_ (K_X12_tries) X G (Fq_ X G (Qv_ G z)) M 59 [(0, .ref (G.1 + x0)), (1, iv_i x1)] [iv_i s0] := by
  unfold f_X12_tries_59 at h
  refine V_istore (lv' := [(4, iv_i s0), (0, .ref (G.1 + x0)), (1, iv_i x1)]) C d_X12_tries_59 (by decide) rfl ?_
  refine V_iload (j := 0) C d_X12_tries_61 rfl ?_
  refine V_aload_n (j := 1) C d_X12_tries_63 rfl rfl ?_
  refine V_getI C ck_12 fw_X12_246 d_X12_tries_64 h (fun v1 o1 h => ?_)
  refine V_icmp_lt (tgt := 71) C d_X12_tries_67 (by decide) o_s0 o1 h (fun h => ?_) (fun h => ?_)
  · skip
    refine V_aload_n (j := 1) C d_X12_tries_71 rfl rfl ?_
    refine V_iload (j := 0) C d_X12_tries_72 rfl ?_
    refine V_putI C ck_12 fw_X12_246 fp_12_25 d_X12_tries_74 o_s0 h (fun M2 h => ?_)
    refine V_aload_n (j := 1) C d_X12_tries_77 rfl rfl ?_
    refine V_iload_n (j := 2) C d_X12_tries_78 rfl rfl ?_
    refine V_putI C ck_12 fw_X12_249 fp_12_24 d_X12_tries_79 o_x1 h (fun M3 h => ?_)
    exact V_vret C hR d_X12_tries_82 (Option.some.inj h)
  · skip
    exact V_vret C hR d_X12_tries_70 (Option.some.inj h)
set_option maxHeartbeats 4000000 in
set_option maxRecDepth 100000 in
theorem t_X12_tries_5 {X : XT_x} {G : GT_g} {z : Mem_m} (C : Cx_ (K_X12_tries) X G) (hR : Rx_ X G none) (M : Mem_m) (x0 : Nat) (x1 : Int) (x2 : Int) (o_x1 : ok_i x1) (o_x2 : ok_i x2) : ∀ (n : Nat) (x3 : Int) (x4 : Int) (o_x3 : ok_i x3) (o_x4 : ok_i x4), f_X12_tries_5 G.2.2.2 M x0 x1 x2 n x3 x4 = some z → V_ (K_X12_tries) X G (Fq_ X G (Qv_ G z)) M 5 [(0, .ref (G.1 + x0)), (1, iv_i x1), (2, iv_i x2), (3, iv_i x3), (4, iv_i x4)] [] := by
  intro n
  induction n with
  | zero => intro x3 x4 o_x3 o_x4 h; exact absurd h (by simp [f_X12_tries_5])
  | succ n ih =>
    intro x3 x4 o_x3 o_x4 h
    unfold f_X12_tries_5 at h
    refine V_iload (j := 4) C d_X12_tries_5 rfl ?_
    refine V_bipush (v := 24) C d_X12_tries_7 rfl ?_
    refine V_icmp_ge (tgt := 45) C d_X12_tries_9 (by decide) o_x4 (okc rfl) h (fun h => ?_) (fun h => ?_)
    · skip
      refine V_iload_n (j := 3) C d_X12_tries_12 rfl rfl ?_
      refine V_aload_n (j := 0) C d_X12_tries_13 rfl rfl ?_
      refine V_getR C ck_12 fw_X12_52 d_X12_tries_14 h (fun v1 h => ?_)
      refine V_iload (j := 4) C d_X12_tries_17 rfl ?_
      refine V_zald C d_X12_tries_19 o_x4 h (fun v2 o2 h => ?_)
      refine V_if_eq (tgt := 36) C d_X12_tries_20 (by decide) o2 h (fun h => ?_) (fun h => ?_)
      · skip
        refine V_iconst C d_X12_tries_36 ?_
        refine V_iadd C d_X12_tries_37 ?_
        refine V_istore_n (lv' := [(3, iv_i (wr_i (x3 + 0))), (0, .ref (G.1 + x0)), (1, iv_i x1), (2, iv_i x2), (4, iv_i x4)]) C d_X12_tries_38 rfl (by decide) rfl ?_
        refine V_iinc (j := 4) (lv' := [(4, iv_i (wr_i (x4 + 1))), (3, iv_i (wr_i (x3 + 0))), (0, .ref (G.1 + x0)), (1, iv_i x1), (2, iv_i x2)]) C d_X12_tries_39 rfl (by decide) rfl ?_
        refine V_goto (tgt := 5) C d_X12_tries_42 (by decide) ?_
        refine V_lv [2, 3, 4, 1, 0] rfl (ih (wr_i (x3 + 0)) (wr_i (x4 + 1)) (ok_wr _) (ok_wr _) h)
      · skip
        refine V_iload_n (j := 1) C d_X12_tries_23 rfl rfl ?_
        refine V_iload (j := 4) C d_X12_tries_24 rfl ?_
        refine V_callSri (K' := K_X12_fitsOrder) (av := [iv_i x1, iv_i x4]) (rest := [iv_i x3]) ys_X12_fitsOrder C (yk_X12_fitsOrder) l1_X12_227 (by decide) d_X12_tries_26 (fun v hv => ct_X12_fitsOrder x1 x4 o_x1 o_x4 hv) rfl rfl (Nat.le_of_ble_eq_true rfl) h (fun v3 o3 h => ?_)
        refine V_if_eq (tgt := 36) C d_X12_tries_29 (by decide) o3 h (fun h => ?_) (fun h => ?_)
        · skip
          refine V_iconst C d_X12_tries_36 ?_
          refine V_iadd C d_X12_tries_37 ?_
          refine V_istore_n (lv' := [(3, iv_i (wr_i (x3 + 0))), (0, .ref (G.1 + x0)), (1, iv_i x1), (2, iv_i x2), (4, iv_i x4)]) C d_X12_tries_38 rfl (by decide) rfl ?_
          refine V_iinc (j := 4) (lv' := [(4, iv_i (wr_i (x4 + 1))), (3, iv_i (wr_i (x3 + 0))), (0, .ref (G.1 + x0)), (1, iv_i x1), (2, iv_i x2)]) C d_X12_tries_39 rfl (by decide) rfl ?_
          refine V_goto (tgt := 5) C d_X12_tries_42 (by decide) ?_
          refine V_lv [2, 3, 4, 1, 0] rfl (ih (wr_i (x3 + 0)) (wr_i (x4 + 1)) (ok_wr _) (ok_wr _) h)
        · skip
          refine V_iconst C d_X12_tries_32 ?_
          refine V_goto (tgt := 37) C d_X12_tries_33 (by decide) ?_
          refine V_iadd C d_X12_tries_37 ?_
          refine V_istore_n (lv' := [(3, iv_i (wr_i (x3 + 1))), (0, .ref (G.1 + x0)), (1, iv_i x1), (2, iv_i x2), (4, iv_i x4)]) C d_X12_tries_38 rfl (by decide) rfl ?_
          refine V_iinc (j := 4) (lv' := [(4, iv_i (wr_i (x4 + 1))), (3, iv_i (wr_i (x3 + 1))), (0, .ref (G.1 + x0)), (1, iv_i x1), (2, iv_i x2)]) C d_X12_tries_39 rfl (by decide) rfl ?_
          refine V_goto (tgt := 5) C d_X12_tries_42 (by decide) ?_
          refine V_lv [2, 3, 4, 1, 0] rfl (ih (wr_i (x3 + 1)) (wr_i (x4 + 1)) (ok_wr _) (ok_wr _) h)
    · skip
      refine V_iload_n (j := 3) C d_X12_tries_45 rfl rfl ?_
      refine V_iload_n (j := 2) C d_X12_tries_46 rfl rfl ?_
      refine V_iload_n (j := 3) C d_X12_tries_47 rfl rfl ?_
      refine V_isub C d_X12_tries_48 ?_
      refine V_icmp_le (tgt := 56) C d_X12_tries_49 (by decide) o_x3 (ok_wr _) h (fun h => ?_) (fun h => ?_)
      · skip
        refine V_iload_n (j := 2) C d_X12_tries_56 rfl rfl ?_
        refine V_iload_n (j := 3) C d_X12_tries_57 rfl rfl ?_
        refine V_isub C d_X12_tries_58 ?_
        refine V_lv [0, 1] rfl (t_X12_tries_59 C hR M x0 x1 (wr_i (x2 - x3)) o_x1 (ok_wr _) h)
      · skip
        refine V_iload_n (j := 3) C d_X12_tries_52 rfl rfl ?_
        refine V_goto (tgt := 59) C d_X12_tries_53 (by decide) ?_
        refine V_lv [0, 1] rfl (t_X12_tries_59 C hR M x0 x1 x3 o_x1 o_x3 h)
set_option maxHeartbeats 4000000 in
set_option maxRecDepth 100000 in
theorem t_X12_tries {X : XT_x} {G : GT_g} {M : Mem_m} {z : Mem_m} (C : Cx_ (K_X12_tries) X G) (hR : Rx_ X G none) (x0 : Nat) (x1 : Int) (x2 : Int) (o_x1 : ok_i x1) (o_x2 : ok_i x2) (h : f_X12_tries G.2.2.2 M x0 x1 x2 = some z) : V_ (K_X12_tries) X G (Fq_ X G (Qv_ G z)) M 0 [(0, .ref (G.1 + x0)), (1, iv_i x1), (2, iv_i x2)] [] := by
  unfold f_X12_tries at h
  refine V_iconst C d_X12_tries_0 ?_
  refine V_istore_n (lv' := [(3, iv_i 0), (0, .ref (G.1 + x0)), (1, iv_i x1), (2, iv_i x2)]) C d_X12_tries_1 rfl (by decide) rfl ?_
  refine V_iconst C d_X12_tries_2 ?_
  refine V_istore (lv' := [(4, iv_i 0), (3, iv_i 0), (0, .ref (G.1 + x0)), (1, iv_i x1), (2, iv_i x2)]) C d_X12_tries_3 (by decide) rfl ?_
  refine V_lv [2, 3, 4, 1, 0] rfl (t_X12_tries_5 C hR M x0 x1 x2 o_x1 o_x2 FU_ 0 0 (okc rfl) (okc rfl) h)
set_option maxHeartbeats 4000000 in
set_option maxRecDepth 100000 in
theorem ct_X12_tries {l : Launch} {G : GT_g} {M : Mem_m} (x0 : Nat) (x1 : Int) (x2 : Int) (o_x1 : ok_i x1) (o_x2 : ok_i x2) {z : Mem_m} (h : f_X12_tries G.2.2.2 M x0 x1 x2 = some z) : MV_ l yX12_tries K_X12_tries none G M [.ref (G.1 + x0), iv_i x1, iv_i x2] z :=
  met_of (by decide +kernel) rfl (Nat.le_of_ble_eq_true rfl) (fun X hl C hR => by subst hl; exact t_X12_tries C hR x0 x1 x2 o_x1 o_x2 h)
theorem d_X12_goesOn_0 : decode cX12_goesOn 0 = .ok (.iload_n 3, 1) := by decide +kernel
theorem d_X12_goesOn_1 : decode cX12_goesOn 1 = .ok (.ifCond .ne 11, 3) := by decide +kernel
theorem d_X12_goesOn_4 : decode cX12_goesOn 4 = .ok (.aload_n 0, 1) := by decide +kernel
theorem d_X12_goesOn_5 : decode cX12_goesOn 5 = .ok (.iload_n 1, 1) := by decide +kernel
theorem d_X12_goesOn_6 : decode cX12_goesOn 6 = .ok (.iload 5, 2) := by decide +kernel
theorem d_X12_goesOn_8 : decode cX12_goesOn 8 = .ok (.invokevirtual 252, 3) := by decide +kernel
theorem d_X12_goesOn_11 : decode cX12_goesOn 11 = .ok (.return_, 1) := by decide +kernel
theorem d_X12_goesOn_12 : decode cX12_goesOn 12 = .ok (.iconst 0, 1) := by decide +kernel
theorem d_X12_goesOn_13 : decode cX12_goesOn 13 = .ok (.istore 6, 2) := by decide +kernel
theorem d_X12_goesOn_15 : decode cX12_goesOn 15 = .ok (.iload 6, 2) := by decide +kernel
theorem d_X12_goesOn_17 : decode cX12_goesOn 17 = .ok (.iconst 4, 1) := by decide +kernel
theorem d_X12_goesOn_18 : decode cX12_goesOn 18 = .ok (.if_icmp .ge 46, 3) := by decide +kernel
theorem d_X12_goesOn_21 : decode cX12_goesOn 21 = .ok (.iload 4, 2) := by decide +kernel
theorem d_X12_goesOn_23 : decode cX12_goesOn 23 = .ok (.iload 6, 2) := by decide +kernel
theorem d_X12_goesOn_25 : decode cX12_goesOn 25 = .ok (.ishr, 1) := by decide +kernel
theorem d_X12_goesOn_26 : decode cX12_goesOn 26 = .ok (.iconst 1, 1) := by decide +kernel
theorem d_X12_goesOn_27 : decode cX12_goesOn 27 = .ok (.iand, 1) := by decide +kernel
theorem d_X12_goesOn_28 : decode cX12_goesOn 28 = .ok (.ifCond .ne 30, 3) := by decide +kernel
theorem d_X12_goesOn_31 : decode cX12_goesOn 31 = .ok (.aload_n 0, 1) := by decide +kernel
theorem d_X12_goesOn_32 : decode cX12_goesOn 32 = .ok (.iload_n 1, 1) := by decide +kernel
theorem d_X12_goesOn_33 : decode cX12_goesOn 33 = .ok (.iload 6, 2) := by decide +kernel
theorem d_X12_goesOn_35 : decode cX12_goesOn 35 = .ok (.iconst 1, 1) := by decide +kernel
theorem d_X12_goesOn_36 : decode cX12_goesOn 36 = .ok (.iadd, 1) := by decide +kernel
theorem d_X12_goesOn_37 : decode cX12_goesOn 37 = .ok (.iload_n 2, 1) := by decide +kernel
theorem d_X12_goesOn_38 : decode cX12_goesOn 38 = .ok (.imul, 1) := by decide +kernel
theorem d_X12_goesOn_39 : decode cX12_goesOn 39 = .ok (.iadd, 1) := by decide +kernel
theorem d_X12_goesOn_40 : decode cX12_goesOn 40 = .ok (.iconst 5, 1) := by decide +kernel
theorem d_X12_goesOn_41 : decode cX12_goesOn 41 = .ok (.iload_n 2, 1) := by decide +kernel
theorem d_X12_goesOn_42 : decode cX12_goesOn 42 = .ok (.imul, 1) := by decide +kernel
theorem d_X12_goesOn_43 : decode cX12_goesOn 43 = .ok (.iload_n 3, 1) := by decide +kernel
theorem d_X12_goesOn_44 : decode cX12_goesOn 44 = .ok (.iconst 1, 1) := by decide +kernel
theorem d_X12_goesOn_45 : decode cX12_goesOn 45 = .ok (.isub, 1) := by decide +kernel
theorem d_X12_goesOn_46 : decode cX12_goesOn 46 = .ok (.iload 4, 2) := by decide +kernel
theorem d_X12_goesOn_48 : decode cX12_goesOn 48 = .ok (.iconst 1, 1) := by decide +kernel
theorem d_X12_goesOn_49 : decode cX12_goesOn 49 = .ok (.iload 6, 2) := by decide +kernel
theorem d_X12_goesOn_51 : decode cX12_goesOn 51 = .ok (.ishl, 1) := by decide +kernel
theorem d_X12_goesOn_52 : decode cX12_goesOn 52 = .ok (.ior, 1) := by decide +kernel
theorem d_X12_goesOn_53 : decode cX12_goesOn 53 = .ok (.iload 5, 2) := by decide +kernel
theorem d_X12_goesOn_55 : decode cX12_goesOn 55 = .ok (.invokevirtual 256, 3) := by decide +kernel
theorem d_X12_goesOn_58 : decode cX12_goesOn 58 = .ok (.iinc 6 1, 3) := by decide +kernel
theorem d_X12_goesOn_61 : decode cX12_goesOn 61 = .ok (.goto (-46), 3) := by decide +kernel
theorem d_X12_goesOn_64 : decode cX12_goesOn 64 = .ok (.return_, 1) := by decide +kernel
set_option maxHeartbeats 4000000 in
set_option maxRecDepth 100000 in
theorem t_X12_goesOn_15 {X : XT_x} {G : GT_g} {z : Mem_m} (d : Nat) (C : Cx_ (K_X12_goesOn (d + 1)) X G) (hR : Rx_ X G none) (rec : Mem_m → Nat → Int → Int → Int → Int → Int → Option Mem_m) (hrec : ∀ (M : Mem_m) (x0 : Nat) (x1 : Int) (x2 : Int) (x3 : Int) (x4 : Int) (x5 : Int) (o_x1 : ok_i x1) (o_x2 : ok_i x2) (o_x3 : ok_i x3) (o_x4 : ok_i x4) (o_x5 : ok_i x5) (z9 : Mem_m), rec M x0 x1 x2 x3 x4 x5 = some z9 → MV_ (x_l X) yX12_goesOn (K_X12_goesOn d) none G M [.ref (G.1 + x0), iv_i x1, iv_i x2, iv_i x3, iv_i x4, iv_i x5] z9) (x0 : Nat) (x1 : Int) (x2 : Int) (x3 : Int) (x4 : Int) (x5 : Int) (o_x1 : ok_i x1) (o_x2 : ok_i x2) (o_x3 : ok_i x3) (o_x4 : ok_i x4) (o_x5 : ok_i x5) : ∀ (n : Nat) (M : Mem_m) (x6 : Int) (o_x6 : ok_i x6), f_X12_goesOn_15 G.2.2.2 rec x0 x1 x2 x3 x4 x5 n M x6 = some z → V_ (K_X12_goesOn (d + 1)) X G (Fq_ X G (Qv_ G z)) M 15 [(0, .ref (G.1 + x0)), (1, iv_i x1), (2, iv_i x2), (3, iv_i x3), (4, iv_i x4), (5, iv_i x5), (6, iv_i x6)] [] := by
  intro n
  induction n with
  | zero => intro M x6 o_x6 h; exact absurd h (by simp [f_X12_goesOn_15])
  | succ n ih =>
    intro M x6 o_x6 h
    unfold f_X12_goesOn_15 at h
    refine V_iload (j := 6) C d_X12_goesOn_15 rfl ?_
    refine V_iconst C d_X12_goesOn_17 ?_
    refine V_icmp_ge (tgt := 64) C d_X12_goesOn_18 (by decide) o_x6 (okc rfl) h (fun h => ?_) (fun h => ?_)
    · skip
      refine V_iload (j := 4) C d_X12_goesOn_21 rfl ?_
      refine V_iload (j := 6) C d_X12_goesOn_23 rfl ?_
      refine V_ishr C d_X12_goesOn_25 ?_
      refine V_iconst C d_X12_goesOn_26 ?_
      refine V_iand C d_X12_goesOn_27 ?_
      refine V_if_ne (tgt := 58) C d_X12_goesOn_28 (by decide) (ok_I _) h (fun h => ?_) (fun h => ?_)
      · skip
        refine V_aload_n (j := 0) C d_X12_goesOn_31 rfl rfl ?_
        refine V_iload_n (j := 1) C d_X12_goesOn_32 rfl rfl ?_
        refine V_iload (j := 6) C d_X12_goesOn_33 rfl ?_
        refine V_iconst C d_X12_goesOn_35 ?_
        refine V_iadd C d_X12_goesOn_36 ?_
        refine V_iload_n (j := 2) C d_X12_goesOn_37 rfl rfl ?_
        refine V_imul C d_X12_goesOn_38 ?_
        refine V_iadd C d_X12_goesOn_39 ?_
        refine V_iconst C d_X12_goesOn_40 ?_
        refine V_iload_n (j := 2) C d_X12_goesOn_41 rfl rfl ?_
        refine V_imul C d_X12_goesOn_42 ?_
        refine V_iload_n (j := 3) C d_X12_goesOn_43 rfl rfl ?_
        refine V_iconst C d_X12_goesOn_44 ?_
        refine V_isub C d_X12_goesOn_45 ?_
        refine V_iload (j := 4) C d_X12_goesOn_46 rfl ?_
        refine V_iconst C d_X12_goesOn_48 ?_
        refine V_iload (j := 6) C d_X12_goesOn_49 rfl ?_
        refine V_ishl C d_X12_goesOn_51 ?_
        refine V_ior C d_X12_goesOn_52 ?_
        refine V_iload (j := 5) C d_X12_goesOn_53 rfl ?_
        refine V_callVwv (K' := K_X12_goesOn d) (a := x0) (ci := 12) (av := [iv_i (wr_i (x1 + (wr_i ((wr_i (x6 + 1)) * x2)))), iv_i (wr_i (5 * x2)), iv_i (wr_i (x3 - 1)), iv_i (or_i x4 (sl_i 1 x6)), iv_i x5]) (rest := []) yi_X12_goesOn (by decide) rfl C (yk_X12_goesOn _) l1_X12_256 (Nat.le_refl _) d_X12_goesOn_55 (fun v hv => hrec M x0 (wr_i (x1 + (wr_i ((wr_i (x6 + 1)) * x2)))) (wr_i (5 * x2)) (wr_i (x3 - 1)) (or_i x4 (sl_i 1 x6)) x5 (ok_wr _) (ok_wr _) (ok_wr _) (ok_I _) o_x5 v hv) rfl rfl (Nat.le_of_ble_eq_true rfl) h (fun M1 h => ?_)
        refine V_iinc (j := 6) (lv' := [(6, iv_i (wr_i (x6 + 1))), (0, .ref (G.1 + x0)), (1, iv_i x1), (2, iv_i x2), (3, iv_i x3), (4, iv_i x4), (5, iv_i x5)]) C d_X12_goesOn_58 rfl (Nat.le_of_ble_eq_true rfl) rfl ?_
        refine V_goto (tgt := 15) C d_X12_goesOn_61 (by decide) ?_
        refine V_lv [1, 2, 3, 4, 5, 6, 0] rfl (ih M1 (wr_i (x6 + 1)) (ok_wr _) h)
      · skip
        refine V_iinc (j := 6) (lv' := [(6, iv_i (wr_i (x6 + 1))), (0, .ref (G.1 + x0)), (1, iv_i x1), (2, iv_i x2), (3, iv_i x3), (4, iv_i x4), (5, iv_i x5)]) C d_X12_goesOn_58 rfl (Nat.le_of_ble_eq_true rfl) rfl ?_
        refine V_goto (tgt := 15) C d_X12_goesOn_61 (by decide) ?_
        refine V_lv [1, 2, 3, 4, 5, 6, 0] rfl (ih M (wr_i (x6 + 1)) (ok_wr _) h)
    · skip
      exact V_vret C hR d_X12_goesOn_64 (Option.some.inj h)
set_option maxHeartbeats 4000000 in
set_option maxRecDepth 100000 in
theorem t_X12_goesOn {X : XT_x} {G : GT_g} {M : Mem_m} {z : Mem_m} (d : Nat) (C : Cx_ (K_X12_goesOn (d + 1)) X G) (hR : Rx_ X G none) (rec : Mem_m → Nat → Int → Int → Int → Int → Int → Option Mem_m) (hrec : ∀ (M : Mem_m) (x0 : Nat) (x1 : Int) (x2 : Int) (x3 : Int) (x4 : Int) (x5 : Int) (o_x1 : ok_i x1) (o_x2 : ok_i x2) (o_x3 : ok_i x3) (o_x4 : ok_i x4) (o_x5 : ok_i x5) (z9 : Mem_m), rec M x0 x1 x2 x3 x4 x5 = some z9 → MV_ (x_l X) yX12_goesOn (K_X12_goesOn d) none G M [.ref (G.1 + x0), iv_i x1, iv_i x2, iv_i x3, iv_i x4, iv_i x5] z9) (x0 : Nat) (x1 : Int) (x2 : Int) (x3 : Int) (x4 : Int) (x5 : Int) (o_x1 : ok_i x1) (o_x2 : ok_i x2) (o_x3 : ok_i x3) (o_x4 : ok_i x4) (o_x5 : ok_i x5) (h : f_X12_goesOn_e G.2.2.2 rec M x0 x1 x2 x3 x4 x5 = some z) : V_ (K_X12_goesOn (d + 1)) X G (Fq_ X G (Qv_ G z)) M 0 [(0, .ref (G.1 + x0)), (1, iv_i x1), (2, iv_i x2), (3, iv_i x3), (4, iv_i x4), (5, iv_i x5)] [] := by
  unfold f_X12_goesOn_e at h
  refine V_iload_n (j := 3) C d_X12_goesOn_0 rfl rfl ?_
  refine V_if_ne (tgt := 12) C d_X12_goesOn_1 (by decide) o_x3 h (fun h => ?_) (fun h => ?_)
  · skip
    refine V_aload_n (j := 0) C d_X12_goesOn_4 rfl rfl ?_
    refine V_iload_n (j := 1) C d_X12_goesOn_5 rfl rfl ?_
    refine V_iload (j := 5) C d_X12_goesOn_6 rfl ?_
    refine V_callVwv (K' := K_X12_tries) (a := x0) (ci := 12) (av := [iv_i x1, iv_i x5]) (rest := []) yi_X12_tries (by decide) rfl C (yk_X12_tries) l1_X12_252 (Nat.le_trans (m := 4) (Nat.le_of_ble_eq_true rfl) (Nat.le_add_right _ _)) d_X12_goesOn_8 (fun v hv => ct_X12_tries x0 x1 x5 o_x1 o_x5 hv) rfl rfl (Nat.le_of_ble_eq_true rfl) h (fun M1 h => ?_)
    exact V_vret C hR d_X12_goesOn_11 (Option.some.inj h)
  · skip
    refine V_iconst C d_X12_goesOn_12 ?_
    refine V_istore (lv' := [(6, iv_i 0), (0, .ref (G.1 + x0)), (1, iv_i x1), (2, iv_i x2), (3, iv_i x3), (4, iv_i x4), (5, iv_i x5)]) C d_X12_goesOn_13 (Nat.le_of_ble_eq_true rfl) rfl ?_
    refine V_lv [1, 2, 3, 4, 5, 6, 0] rfl (t_X12_goesOn_15 d C hR rec hrec x0 x1 x2 x3 x4 x5 o_x1 o_x2 o_x3 o_x4 o_x5 FU_ M 0 (okc rfl) h)
set_option maxHeartbeats 4000000 in
set_option maxRecDepth 100000 in
theorem ct_X12_goesOn {l : Launch} {G : GT_g} : ∀ (d : Nat) {M : Mem_m} (x0 : Nat) (x1 : Int) (x2 : Int) (x3 : Int) (x4 : Int) (x5 : Int) (o_x1 : ok_i x1) (o_x2 : ok_i x2) (o_x3 : ok_i x3) (o_x4 : ok_i x4) (o_x5 : ok_i x5) {z : Mem_m} (h : f_X12_goesOn d G.2.2.2 M x0 x1 x2 x3 x4 x5 = some z), MV_ l yX12_goesOn (K_X12_goesOn d) none G M [.ref (G.1 + x0), iv_i x1, iv_i x2, iv_i x3, iv_i x4, iv_i x5] z := by
  intro d
  induction d with
  | zero => intro M x0 x1 x2 x3 x4 x5 o_x1 o_x2 o_x3 o_x4 o_x5 z h; cases h
  | succ d ih =>
    intro M x0 x1 x2 x3 x4 x5 o_x1 o_x2 o_x3 o_x4 o_x5 z h
    exact met_of (by decide +kernel) rfl (Nat.le_of_ble_eq_true rfl) (fun X hl C hR => by subst hl; exact t_X12_goesOn d C hR (fun M x0 x1 x2 x3 x4 x5 => f_X12_goesOn d G.2.2.2 M x0 x1 x2 x3 x4 x5) (fun M x0 x1 x2 x3 x4 x5 o_x1 o_x2 o_x3 o_x4 o_x5 z9 h9 => ih x0 x1 x2 x3 x4 x5 o_x1 o_x2 o_x3 o_x4 o_x5 h9) x0 x1 x2 x3 x4 x5 o_x1 o_x2 o_x3 o_x4 o_x5 h)
theorem d_X12_ask_0 : decode cX12_ask 0 = .ok (.iload_n 1, 1) := by decide +kernel
theorem d_X12_ask_1 : decode cX12_ask 1 = .ok (.invokestatic 238, 3) := by decide +kernel
theorem d_X12_ask_4 : decode cX12_ask 4 = .ok (.ifCond .eq 13, 3) := by decide +kernel
theorem d_X12_ask_7 : decode cX12_ask 7 = .ok (.iload_n 2, 1) := by decide +kernel
theorem d_X12_ask_8 : decode cX12_ask 8 = .ok (.i2l, 1) := by decide +kernel
theorem d_X12_ask_9 : decode cX12_ask 9 = .ok (.lconst 0, 1) := by decide +kernel
theorem d_X12_ask_10 : decode cX12_ask 10 = .ok (.lconst 1, 1) := by decide +kernel
theorem d_X12_ask_11 : decode cX12_ask 11 = .ok (.invokestatic 69, 3) := by decide +kernel
theorem d_X12_ask_14 : decode cX12_ask 14 = .ok (.ifCond .ne 5, 3) := by decide +kernel
theorem d_X12_ask_17 : decode cX12_ask 17 = .ok (.iconst (-1), 1) := by decide +kernel
theorem d_X12_ask_18 : decode cX12_ask 18 = .ok (.ireturn, 1) := by decide +kernel
theorem d_X12_ask_19 : decode cX12_ask 19 = .ok (.aload_n 0, 1) := by decide +kernel
theorem d_X12_ask_20 : decode cX12_ask 20 = .ok (.iload_n 1, 1) := by decide +kernel
theorem d_X12_ask_21 : decode cX12_ask 21 = .ok (.invokevirtual 241, 3) := by decide +kernel
theorem d_X12_ask_24 : decode cX12_ask 24 = .ok (.istore_n 3, 1) := by decide +kernel
theorem d_X12_ask_25 : decode cX12_ask 25 = .ok (.iload_n 3, 1) := by decide +kernel
theorem d_X12_ask_26 : decode cX12_ask 26 = .ok (.iconst 2, 1) := by decide +kernel
theorem d_X12_ask_27 : decode cX12_ask 27 = .ok (.if_icmp .ge 6, 3) := by decide +kernel
theorem d_X12_ask_30 : decode cX12_ask 30 = .ok (.bipush (-4), 2) := by decide +kernel
theorem d_X12_ask_32 : decode cX12_ask 32 = .ok (.ireturn, 1) := by decide +kernel
theorem d_X12_ask_33 : decode cX12_ask 33 = .ok (.aload_n 0, 1) := by decide +kernel
theorem d_X12_ask_34 : decode cX12_ask 34 = .ok (.bipush 25, 2) := by decide +kernel
theorem d_X12_ask_36 : decode cX12_ask 36 = .ok (.putfield 246, 3) := by decide +kernel
theorem d_X12_ask_39 : decode cX12_ask 39 = .ok (.iconst 2, 1) := by decide +kernel
theorem d_X12_ask_40 : decode cX12_ask 40 = .ok (.istore 4, 2) := by decide +kernel
theorem d_X12_ask_42 : decode cX12_ask 42 = .ok (.iload 4, 2) := by decide +kernel
theorem d_X12_ask_44 : decode cX12_ask 44 = .ok (.iconst 4, 1) := by decide +kernel
theorem d_X12_ask_45 : decode cX12_ask 45 = .ok (.if_icmp .gt 19, 3) := by decide +kernel
theorem d_X12_ask_48 : decode cX12_ask 48 = .ok (.aload_n 0, 1) := by decide +kernel
theorem d_X12_ask_49 : decode cX12_ask 49 = .ok (.iconst 0, 1) := by decide +kernel
theorem d_X12_ask_50 : decode cX12_ask 50 = .ok (.iconst 1, 1) := by decide +kernel
theorem d_X12_ask_51 : decode cX12_ask 51 = .ok (.iload 4, 2) := by decide +kernel
theorem d_X12_ask_53 : decode cX12_ask 53 = .ok (.iconst 0, 1) := by decide +kernel
theorem d_X12_ask_54 : decode cX12_ask 54 = .ok (.iload_n 3, 1) := by decide +kernel
theorem d_X12_ask_55 : decode cX12_ask 55 = .ok (.invokevirtual 256, 3) := by decide +kernel
theorem d_X12_ask_58 : decode cX12_ask 58 = .ok (.iinc 4 1, 3) := by decide +kernel
theorem d_X12_ask_61 : decode cX12_ask 61 = .ok (.goto (-19), 3) := by decide +kernel
theorem d_X12_ask_64 : decode cX12_ask 64 = .ok (.iload_n 2, 1) := by decide +kernel
theorem d_X12_ask_65 : decode cX12_ask 65 = .ok (.ifCond .ne 10, 3) := by decide +kernel
theorem d_X12_ask_68 : decode cX12_ask 68 = .ok (.aload_n 0, 1) := by decide +kernel
theorem d_X12_ask_69 : decode cX12_ask 69 = .ok (.getfield 249, 3) := by decide +kernel
theorem d_X12_ask_72 : decode cX12_ask 72 = .ok (.goto 7, 3) := by decide +kernel
theorem d_X12_ask_75 : decode cX12_ask 75 = .ok (.aload_n 0, 1) := by decide +kernel
theorem d_X12_ask_76 : decode cX12_ask 76 = .ok (.getfield 246, 3) := by decide +kernel
theorem d_X12_ask_79 : decode cX12_ask 79 = .ok (.ireturn, 1) := by decide +kernel
set_option maxHeartbeats 4000000 in
set_option maxRecDepth 100000 in
theorem t_X12_ask_42 {X : XT_x} {G : GT_g} {z : (Mem_m × Int)} (C : Cx_ (K_X12_ask) X G) (hR : Rx_ X G (some .int)) (x0 : Nat) (x2 : Int) (x3 : Int) (o_x2 : ok_i x2) (o_x3 : ok_i x3) : ∀ (n : Nat) (M : Mem_m) (x4 : Int) (o_x4 : ok_i x4), f_X12_ask_42 G.2.2.2 x0 x2 x3 n M x4 = some z → V_ (K_X12_ask) X G (Fq_ X G (Qi_ G z.1 z.2)) M 42 [(0, .ref (G.1 + x0)), (2, iv_i x2), (3, iv_i x3), (4, iv_i x4)] [] := by
  intro n
  induction n with
  | zero => intro M x4 o_x4 h; exact absurd h (by simp [f_X12_ask_42])
  | succ n ih =>
    intro M x4 o_x4 h
    unfold f_X12_ask_42 at h
    refine V_iload (j := 3) C d_X12_ask_42 rfl ?_
    refine V_iconst C d_X12_ask_44 ?_
    refine V_icmp_gt (tgt := 64) C d_X12_ask_45 (by decide) o_x4 (okc rfl) h (fun h => ?_) (fun h => ?_)
    · skip
      refine V_aload_n (j := 0) C d_X12_ask_48 rfl rfl ?_
      refine V_iconst C d_X12_ask_49 ?_
      refine V_iconst C d_X12_ask_50 ?_
      refine V_iload (j := 3) C d_X12_ask_51 rfl ?_
      refine V_iconst C d_X12_ask_53 ?_
      refine V_iload_n (j := 2) C d_X12_ask_54 rfl rfl ?_
      refine V_callVwv (K' := K_X12_goesOn 12) (a := x0) (ci := 12) (av := [iv_i 0, iv_i 1, iv_i x4, iv_i 0, iv_i x3]) (rest := []) yi_X12_goesOn (by decide) rfl C (yk_X12_goesOn _) l1_X12_256 (by decide) d_X12_ask_55 (fun v hv => ct_X12_goesOn 12 x0 0 1 x4 0 x3 (okc rfl) (okc rfl) o_x4 (okc rfl) o_x3 hv) rfl rfl (Nat.le_of_ble_eq_true rfl) h (fun M1 h => ?_)
      refine V_iinc (j := 3) (lv' := [(4, iv_i (wr_i (x4 + 1))), (0, .ref (G.1 + x0)), (2, iv_i x2), (3, iv_i x3)]) C d_X12_ask_58 rfl (by decide) rfl ?_
      refine V_goto (tgt := 42) C d_X12_ask_61 (by decide) ?_
      refine V_lv [1, 2, 3, 0] rfl (ih M1 (wr_i (x4 + 1)) (ok_wr _) h)
    · skip
      refine V_iload_n (j := 1) C d_X12_ask_64 rfl rfl ?_
      refine V_if_ne (tgt := 75) C d_X12_ask_65 (by decide) o_x2 h (fun h => ?_) (fun h => ?_)
      · skip
        refine V_aload_n (j := 0) C d_X12_ask_68 rfl rfl ?_
        refine V_getI C ck_12 fw_X12_249 d_X12_ask_69 h (fun v2 o2 h => ?_)
        refine V_goto (tgt := 79) C d_X12_ask_72 (by decide) ?_
        exact V_iret_w C hR d_X12_ask_79 o2 h
      · skip
        refine V_aload_n (j := 0) C d_X12_ask_75 rfl rfl ?_
        refine V_getI C ck_12 fw_X12_246 d_X12_ask_76 h (fun v3 o3 h => ?_)
        exact V_iret_w C hR d_X12_ask_79 o3 h
set_option maxHeartbeats 4000000 in
set_option maxRecDepth 100000 in
theorem t_X12_ask {X : XT_x} {G : GT_g} {M : Mem_m} {z : (Mem_m × Int)} (C : Cx_ (K_X12_ask) X G) (hR : Rx_ X G (some .int)) (x0 : Nat) (x1 : Int) (x2 : Int) (o_x1 : ok_i x1) (o_x2 : ok_i x2) (h : f_X12_ask G.2.2.2 M x0 x1 x2 = some z) : V_ (K_X12_ask) X G (Fq_ X G (Qi_ G z.1 z.2)) M 0 [(0, .ref (G.1 + x0)), (1, iv_i x1), (2, iv_i x2)] [] := by
  unfold f_X12_ask at h
  refine V_iload_n (j := 1) C d_X12_ask_0 rfl rfl ?_
  refine V_callSri (K' := K_X12_isVillage) (av := [iv_i x1]) (rest := []) ys_X12_isVillage C (yk_X12_isVillage) l1_X12_238 (by decide) d_X12_ask_1 (fun v hv => ct_X12_isVillage x1 o_x1 hv) rfl rfl (Nat.le_of_ble_eq_true rfl) h (fun v1 o1 h => ?_)
  refine V_if_eq (tgt := 17) C d_X12_ask_4 (by decide) o1 h (fun h => ?_) (fun h => ?_)
  · skip
    refine V_iconst C d_X12_ask_17 ?_
    exact V_iret_w C hR d_X12_ask_18 (okc rfl) h
  · skip
    refine V_iload_n (j := 2) C d_X12_ask_7 rfl rfl ?_
    refine V_i2l C d_X12_ask_8 o_x2 ?_
    refine V_lconst0 C d_X12_ask_9 ?_
    refine V_lconst1 C d_X12_ask_10 ?_
    refine V_callSri (K' := K_X12_isIn) (av := [jv_i x2, jv_i 0, jv_i 1]) (rest := []) ys_X12_isIn C (yk_X12_isIn) l1_X12_69 (by decide) d_X12_ask_11 (fun v hv => ct_X12_isIn x2 0 1 o_x2 (okc rfl) (okc rfl) hv) rfl rfl (Nat.le_of_ble_eq_true rfl) h (fun v2 o2 h => ?_)
    refine V_if_ne (tgt := 19) C d_X12_ask_14 (by decide) o2 h (fun h => ?_) (fun h => ?_)
    · skip
      refine V_iconst C d_X12_ask_17 ?_
      exact V_iret_w C hR d_X12_ask_18 (okc rfl) h
    · skip
      refine V_aload_n (j := 0) C d_X12_ask_19 rfl rfl ?_
      refine V_iload_n (j := 1) C d_X12_ask_20 rfl rfl ?_
      refine V_callVwi (K' := K_X12_findSet) (a := x0) (ci := 12) (av := [iv_i x1]) (rest := []) yi_X12_findSet (by decide) rfl C (yk_X12_findSet) l1_X12_241 (by decide) d_X12_ask_21 (fun v hv => ct_X12_findSet x0 x1 o_x1 hv) rfl rfl (Nat.le_of_ble_eq_true rfl) h (fun z3 o3 h => ?_)
      refine V_istore_n (lv' := [(3, iv_i z3.2), (0, .ref (G.1 + x0)), (1, iv_i x1), (2, iv_i x2)]) C d_X12_ask_24 rfl (by decide) rfl ?_
      refine V_iload_n (j := 0) C d_X12_ask_25 rfl rfl ?_
      refine V_iconst C d_X12_ask_26 ?_
      refine V_icmp_ge (tgt := 33) C d_X12_ask_27 (by decide) o3 (okc rfl) h (fun h => ?_) (fun h => ?_)
      · skip
        refine V_bipush (v := (-4)) C d_X12_ask_30 rfl ?_
        exact V_iret_w C hR d_X12_ask_32 (okc rfl) h
      · skip
        refine V_aload_n (j := 1) C d_X12_ask_33 rfl rfl ?_
        refine V_bipush (v := 25) C d_X12_ask_34 rfl ?_
        refine V_putI C ck_12 fw_X12_246 fp_12_25 d_X12_ask_36 (okc rfl) h (fun M4 h => ?_)
        refine V_iconst C d_X12_ask_39 ?_
        refine V_istore (lv' := [(4, iv_i 2), (3, iv_i z3.2), (0, .ref (G.1 + x0)), (1, iv_i x1), (2, iv_i x2)]) C d_X12_ask_40 (by decide) rfl ?_
        refine V_lv [2, 4, 1, 0] rfl (t_X12_ask_42 C hR x0 x2 z3.2 o_x2 o3 FU_ M4 2 (okc rfl) h)
set_option maxHeartbeats 4000000 in
set_option maxRecDepth 100000 in
theorem ct_X12_ask {l : Launch} {G : GT_g} {M : Mem_m} (x0 : Nat) (x1 : Int) (x2 : Int) (o_x1 : ok_i x1) (o_x2 : ok_i x2) {z : (Mem_m × Int)} (h : f_X12_ask G.2.2.2 M x0 x1 x2 = some z) : MI_ l yX12_ask K_X12_ask (some .int) G M [.ref (G.1 + x0), iv_i x1, iv_i x2] z.1 z.2 :=
  met_of (by decide +kernel) rfl (Nat.le_of_ble_eq_true rfl) (fun X hl C hR => by subst hl; exact t_X12_ask C hR x0 x1 x2 o_x1 o_x2 h)
