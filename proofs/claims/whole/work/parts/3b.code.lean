theorem d_X12_led_0 : decode cX12_led 0 = .ok (.iload_n 1, 1) := by decide +kernel
theorem d_X12_led_1 : decode cX12_led 1 = .ok (.i2l, 1) := by decide +kernel
theorem d_X12_led_2 : decode cX12_led 2 = .ok (.lconst 0, 1) := by decide +kernel
theorem d_X12_led_3 : decode cX12_led 3 = .ok (.lconst 1, 1) := by decide +kernel
theorem d_X12_led_4 : decode cX12_led 4 = .ok (.invokestatic 69, 3) := by decide +kernel
theorem d_X12_led_7 : decode cX12_led 7 = .ok (.ifCond .ne 5, 3) := by decide +kernel
theorem d_X12_led_10 : decode cX12_led 10 = .ok (.iconst (-1), 1) := by decide +kernel
theorem d_X12_led_11 : decode cX12_led 11 = .ok (.ireturn, 1) := by decide +kernel
theorem d_X12_led_12 : decode cX12_led 12 = .ok (.aload_n 0, 1) := by decide +kernel
theorem d_X12_led_13 : decode cX12_led 13 = .ok (.invokevirtual 281, 3) := by decide +kernel
theorem d_X12_led_16 : decode cX12_led 16 = .ok (.iload_n 1, 1) := by decide +kernel
theorem d_X12_led_17 : decode cX12_led 17 = .ok (.ifCond .ne 10, 3) := by decide +kernel
theorem d_X12_led_20 : decode cX12_led 20 = .ok (.aload_n 0, 1) := by decide +kernel
theorem d_X12_led_21 : decode cX12_led 21 = .ok (.getfield 272, 3) := by decide +kernel
theorem d_X12_led_24 : decode cX12_led 24 = .ok (.goto 7, 3) := by decide +kernel
theorem d_X12_led_27 : decode cX12_led 27 = .ok (.aload_n 0, 1) := by decide +kernel
theorem d_X12_led_28 : decode cX12_led 28 = .ok (.getfield 275, 3) := by decide +kernel
theorem d_X12_led_31 : decode cX12_led 31 = .ok (.ireturn, 1) := by decide +kernel
set_option maxHeartbeats 4000000 in
set_option maxRecDepth 100000 in
theorem t_X12_led {X : XT_x} {G : GT_g} {M : Mem_m} {z : (Mem_m × Int)} (C : Cx_ (K_X12_led) X G) (hR : Rx_ X G (some .int)) (x0 : Nat) (x1 : Int) (o_x1 : ok_i x1) (h : f_X12_led G.2.2.2 M x0 x1 = some z) : V_ (K_X12_led) X G (Fq_ X G (Qi_ G z.1 z.2)) M 0 [(0, .ref (G.1 + x0)), (1, iv_i x1)] [] := by
  unfold f_X12_led at h
  refine V_iload_n (j := 1) C d_X12_led_0 rfl rfl ?_
  refine V_i2l C d_X12_led_1 o_x1 ?_
  refine V_lconst0 C d_X12_led_2 ?_
  refine V_lconst1 C d_X12_led_3 ?_
  refine V_callSri (K' := K_X12_isIn) (av := [jv_i x1, jv_i 0, jv_i 1]) (rest := []) ys_X12_isIn C (yk_X12_isIn) l1_X12_69 (by decide) d_X12_led_4 (fun v hv => ct_X12_isIn x1 0 1 o_x1 (okc rfl) (okc rfl) hv) rfl rfl (Nat.le_of_ble_eq_true rfl) h (fun v1 o1 h => ?_)
  refine V_if_ne (tgt := 12) C d_X12_led_7 (by decide) o1 h (fun h => ?_) (fun h => ?_)
  · skip
    refine V_iconst C d_X12_led_10 ?_
    exact V_iret_w C hR d_X12_led_11 (okc rfl) h
  · skip
    refine V_aload_n (j := 0) C d_X12_led_12 rfl rfl ?_
    refine V_callVwv (K' := K_X12_asItIs) (a := x0) (ci := 12) (av := []) (rest := []) yi_X12_asItIs (by decide) rfl C (yk_X12_asItIs) l1_X12_281 (by decide) d_X12_led_13 (fun v hv => ct_X12_asItIs x0 hv) rfl rfl (Nat.le_of_ble_eq_true rfl) h (fun M2 h => ?_)
    refine V_iload_n (j := 1) C d_X12_led_16 rfl rfl ?_
    refine V_if_ne (tgt := 27) C d_X12_led_17 (by decide) o_x1 h (fun h => ?_) (fun h => ?_)
    · skip
      refine V_aload_n (j := 0) C d_X12_led_20 rfl rfl ?_
      refine V_getI C ck_12 fw_X12_272 d_X12_led_21 h (fun v3 o3 h => ?_)
      refine V_goto (tgt := 31) C d_X12_led_24 (by decide) ?_
      exact V_iret_w C hR d_X12_led_31 o3 h
    · skip
      refine V_aload_n (j := 0) C d_X12_led_27 rfl rfl ?_
      refine V_getI C ck_12 fw_X12_275 d_X12_led_28 h (fun v4 o4 h => ?_)
      exact V_iret_w C hR d_X12_led_31 o4 h
set_option maxHeartbeats 4000000 in
set_option maxRecDepth 100000 in
theorem ct_X12_led {l : Launch} {G : GT_g} {M : Mem_m} (x0 : Nat) (x1 : Int) (o_x1 : ok_i x1) {z : (Mem_m × Int)} (h : f_X12_led G.2.2.2 M x0 x1 = some z) : MI_ l yX12_led K_X12_led (some .int) G M [.ref (G.1 + x0), iv_i x1] z.1 z.2 :=
  met_of (by decide +kernel) rfl (Nat.le_of_ble_eq_true rfl) (fun X hl C hR => by subst hl; exact t_X12_led C hR x0 x1 o_x1 h)
theorem d_X12_deals_0 : decode cX12_deals 0 = .ok (.iload_n 1, 1) := by decide +kernel
theorem d_X12_deals_1 : decode cX12_deals 1 = .ok (.aload_n 0, 1) := by decide +kernel
theorem d_X12_deals_2 : decode cX12_deals 2 = .ok (.getfield 9, 3) := by decide +kernel
theorem d_X12_deals_5 : decode cX12_deals 5 = .ok (.sipush 1066, 3) := by decide +kernel
theorem d_X12_deals_8 : decode cX12_deals 8 = .ok (.iaload, 1) := by decide +kernel
theorem d_X12_deals_9 : decode cX12_deals 9 = .ok (.if_icmp .ne 40, 3) := by decide +kernel
theorem d_X12_deals_12 : decode cX12_deals 12 = .ok (.aload_n 0, 1) := by decide +kernel
theorem d_X12_deals_13 : decode cX12_deals 13 = .ok (.invokevirtual 278, 3) := by decide +kernel
theorem d_X12_deals_16 : decode cX12_deals 16 = .ok (.aload_n 0, 1) := by decide +kernel
theorem d_X12_deals_17 : decode cX12_deals 17 = .ok (.dup, 1) := by decide +kernel
theorem d_X12_deals_18 : decode cX12_deals 18 = .ok (.getfield 284, 3) := by decide +kernel
theorem d_X12_deals_21 : decode cX12_deals 21 = .ok (.iconst 1, 1) := by decide +kernel
theorem d_X12_deals_22 : decode cX12_deals 22 = .ok (.iadd, 1) := by decide +kernel
theorem d_X12_deals_23 : decode cX12_deals 23 = .ok (.putfield 284, 3) := by decide +kernel
theorem d_X12_deals_26 : decode cX12_deals 26 = .ok (.aload_n 0, 1) := by decide +kernel
theorem d_X12_deals_27 : decode cX12_deals 27 = .ok (.dup, 1) := by decide +kernel
theorem d_X12_deals_28 : decode cX12_deals 28 = .ok (.getfield 287, 3) := by decide +kernel
theorem d_X12_deals_31 : decode cX12_deals 31 = .ok (.aload_n 0, 1) := by decide +kernel
theorem d_X12_deals_32 : decode cX12_deals 32 = .ok (.getfield 272, 3) := by decide +kernel
theorem d_X12_deals_35 : decode cX12_deals 35 = .ok (.iload_n 3, 1) := by decide +kernel
theorem d_X12_deals_36 : decode cX12_deals 36 = .ok (.if_icmp .lt 7, 3) := by decide +kernel
theorem d_X12_deals_39 : decode cX12_deals 39 = .ok (.iconst 1, 1) := by decide +kernel
theorem d_X12_deals_40 : decode cX12_deals 40 = .ok (.goto 4, 3) := by decide +kernel
theorem d_X12_deals_43 : decode cX12_deals 43 = .ok (.iconst 0, 1) := by decide +kernel
theorem d_X12_deals_44 : decode cX12_deals 44 = .ok (.iadd, 1) := by decide +kernel
theorem d_X12_deals_45 : decode cX12_deals 45 = .ok (.putfield 287, 3) := by decide +kernel
theorem d_X12_deals_48 : decode cX12_deals 48 = .ok (.return_, 1) := by decide +kernel
theorem d_X12_deals_49 : decode cX12_deals 49 = .ok (.iconst 0, 1) := by decide +kernel
theorem d_X12_deals_50 : decode cX12_deals 50 = .ok (.istore 4, 2) := by decide +kernel
theorem d_X12_deals_52 : decode cX12_deals 52 = .ok (.iload 4, 2) := by decide +kernel
theorem d_X12_deals_54 : decode cX12_deals 54 = .ok (.aload_n 0, 1) := by decide +kernel
theorem d_X12_deals_55 : decode cX12_deals 55 = .ok (.getfield 9, 3) := by decide +kernel
theorem d_X12_deals_58 : decode cX12_deals 58 = .ok (.sipush 1066, 3) := by decide +kernel
theorem d_X12_deals_61 : decode cX12_deals 61 = .ok (.iaload, 1) := by decide +kernel
theorem d_X12_deals_62 : decode cX12_deals 62 = .ok (.if_icmp .ge 44, 3) := by decide +kernel
theorem d_X12_deals_65 : decode cX12_deals 65 = .ok (.iload_n 2, 1) := by decide +kernel
theorem d_X12_deals_66 : decode cX12_deals 66 = .ok (.iload 4, 2) := by decide +kernel
theorem d_X12_deals_68 : decode cX12_deals 68 = .ok (.ishr, 1) := by decide +kernel
theorem d_X12_deals_69 : decode cX12_deals 69 = .ok (.iconst 1, 1) := by decide +kernel
theorem d_X12_deals_70 : decode cX12_deals 70 = .ok (.iand, 1) := by decide +kernel
theorem d_X12_deals_71 : decode cX12_deals 71 = .ok (.iconst 1, 1) := by decide +kernel
theorem d_X12_deals_72 : decode cX12_deals 72 = .ok (.if_icmp .ne 6, 3) := by decide +kernel
theorem d_X12_deals_75 : decode cX12_deals 75 = .ok (.goto 25, 3) := by decide +kernel
theorem d_X12_deals_78 : decode cX12_deals 78 = .ok (.aload_n 0, 1) := by decide +kernel
theorem d_X12_deals_79 : decode cX12_deals 79 = .ok (.getfield 56, 3) := by decide +kernel
theorem d_X12_deals_82 : decode cX12_deals 82 = .ok (.iload_n 1, 1) := by decide +kernel
theorem d_X12_deals_83 : decode cX12_deals 83 = .ok (.iload 4, 2) := by decide +kernel
theorem d_X12_deals_85 : decode cX12_deals 85 = .ok (.iastore, 1) := by decide +kernel
theorem d_X12_deals_86 : decode cX12_deals 86 = .ok (.aload_n 0, 1) := by decide +kernel
theorem d_X12_deals_87 : decode cX12_deals 87 = .ok (.iload_n 1, 1) := by decide +kernel
theorem d_X12_deals_88 : decode cX12_deals 88 = .ok (.iconst 1, 1) := by decide +kernel
theorem d_X12_deals_89 : decode cX12_deals 89 = .ok (.iadd, 1) := by decide +kernel
theorem d_X12_deals_90 : decode cX12_deals 90 = .ok (.iload_n 2, 1) := by decide +kernel
theorem d_X12_deals_91 : decode cX12_deals 91 = .ok (.iconst 1, 1) := by decide +kernel
theorem d_X12_deals_92 : decode cX12_deals 92 = .ok (.iload 4, 2) := by decide +kernel
theorem d_X12_deals_94 : decode cX12_deals 94 = .ok (.ishl, 1) := by decide +kernel
theorem d_X12_deals_95 : decode cX12_deals 95 = .ok (.ior, 1) := by decide +kernel
theorem d_X12_deals_96 : decode cX12_deals 96 = .ok (.iload_n 3, 1) := by decide +kernel
theorem d_X12_deals_97 : decode cX12_deals 97 = .ok (.invokevirtual 290, 3) := by decide +kernel
theorem d_X12_deals_100 : decode cX12_deals 100 = .ok (.iinc 4 1, 3) := by decide +kernel
theorem d_X12_deals_103 : decode cX12_deals 103 = .ok (.goto (-51), 3) := by decide +kernel
theorem d_X12_deals_106 : decode cX12_deals 106 = .ok (.return_, 1) := by decide +kernel
set_option maxHeartbeats 4000000 in
set_option maxRecDepth 100000 in
theorem t_X12_deals_52 {X : XT_x} {G : GT_g} {z : Mem_m} (d : Nat) (C : Cx_ (K_X12_deals (d + 1)) X G) (hR : Rx_ X G none) (rec : Mem_m → Nat → Int → Int → Int → Option Mem_m) (hrec : ∀ (M : Mem_m) (x0 : Nat) (x1 : Int) (x2 : Int) (x3 : Int) (o_x1 : ok_i x1) (o_x2 : ok_i x2) (o_x3 : ok_i x3) (z9 : Mem_m), rec M x0 x1 x2 x3 = some z9 → MV_ (x_l X) yX12_deals (K_X12_deals d) none G M [.ref (G.1 + x0), iv_i x1, iv_i x2, iv_i x3] z9) (x0 : Nat) (x1 : Int) (x2 : Int) (x3 : Int) (o_x1 : ok_i x1) (o_x2 : ok_i x2) (o_x3 : ok_i x3) : ∀ (n : Nat) (M : Mem_m) (x4 : Int) (o_x4 : ok_i x4), f_X12_deals_52 G.2.2.2 rec x0 x1 x2 x3 n M x4 = some z → V_ (K_X12_deals (d + 1)) X G (Fq_ X G (Qv_ G z)) M 52 [(0, .ref (G.1 + x0)), (1, iv_i x1), (2, iv_i x2), (3, iv_i x3), (4, iv_i x4)] [] := by
  intro n
  induction n with
  | zero => intro M x4 o_x4 h; exact absurd h (by simp [f_X12_deals_52])
  | succ n ih =>
    intro M x4 o_x4 h
    unfold f_X12_deals_52 at h
    refine V_iload (j := 4) C d_X12_deals_52 rfl ?_
    refine V_aload_n (j := 0) C d_X12_deals_54 rfl rfl ?_
    refine V_getR C ck_12 fw_X12_9 d_X12_deals_55 h (fun v1 h => ?_)
    refine V_sipush (v := 1066) C d_X12_deals_58 rfl ?_
    refine V_iald C d_X12_deals_61 (okc rfl) h (fun v2 o2 h => ?_)
    refine V_icmp_ge (tgt := 106) C d_X12_deals_62 (by decide) o_x4 o2 h (fun h => ?_) (fun h => ?_)
    · skip
      refine V_iload_n (j := 2) C d_X12_deals_65 rfl rfl ?_
      refine V_iload (j := 4) C d_X12_deals_66 rfl ?_
      refine V_ishr C d_X12_deals_68 ?_
      refine V_iconst C d_X12_deals_69 ?_
      refine V_iand C d_X12_deals_70 ?_
      refine V_iconst C d_X12_deals_71 ?_
      refine V_icmp_ne (tgt := 78) C d_X12_deals_72 (by decide) (ok_I _) (okc rfl) h (fun h => ?_) (fun h => ?_)
      · skip
        refine V_goto (tgt := 100) C d_X12_deals_75 (by decide) ?_
        refine V_iinc (j := 4) (lv' := [(4, iv_i (wr_i (x4 + 1))), (0, .ref (G.1 + x0)), (1, iv_i x1), (2, iv_i x2), (3, iv_i x3)]) C d_X12_deals_100 rfl (Nat.le_of_ble_eq_true rfl) rfl ?_
        refine V_goto (tgt := 52) C d_X12_deals_103 (by decide) ?_
        refine V_lv [1, 2, 3, 4, 0] rfl (ih M (wr_i (x4 + 1)) (ok_wr _) h)
      · skip
        refine V_aload_n (j := 0) C d_X12_deals_78 rfl rfl ?_
        refine V_getR C ck_12 fw_X12_56 d_X12_deals_79 h (fun v3 h => ?_)
        refine V_iload_n (j := 1) C d_X12_deals_82 rfl rfl ?_
        refine V_iload (j := 4) C d_X12_deals_83 rfl ?_
        refine V_iast C d_X12_deals_85 o_x1 o_x4 h (fun M4 h => ?_)
        refine V_aload_n (j := 0) C d_X12_deals_86 rfl rfl ?_
        refine V_iload_n (j := 1) C d_X12_deals_87 rfl rfl ?_
        refine V_iconst C d_X12_deals_88 ?_
        refine V_iadd C d_X12_deals_89 ?_
        refine V_iload_n (j := 2) C d_X12_deals_90 rfl rfl ?_
        refine V_iconst C d_X12_deals_91 ?_
        refine V_iload (j := 4) C d_X12_deals_92 rfl ?_
        refine V_ishl C d_X12_deals_94 ?_
        refine V_ior C d_X12_deals_95 ?_
        refine V_iload_n (j := 3) C d_X12_deals_96 rfl rfl ?_
        refine V_callVwv (K' := K_X12_deals d) (a := x0) (ci := 12) (av := [iv_i (wr_i (x1 + 1)), iv_i (or_i x2 (sl_i 1 x4)), iv_i x3]) (rest := []) yi_X12_deals (by decide) rfl C (yk_X12_deals _) l1_X12_290 (Nat.le_refl _) d_X12_deals_97 (fun v hv => hrec M4 x0 (wr_i (x1 + 1)) (or_i x2 (sl_i 1 x4)) x3 (ok_wr _) (ok_I _) o_x3 v hv) rfl rfl (Nat.le_of_ble_eq_true rfl) h (fun M5 h => ?_)
        refine V_iinc (j := 4) (lv' := [(4, iv_i (wr_i (x4 + 1))), (0, .ref (G.1 + x0)), (1, iv_i x1), (2, iv_i x2), (3, iv_i x3)]) C d_X12_deals_100 rfl (Nat.le_of_ble_eq_true rfl) rfl ?_
        refine V_goto (tgt := 52) C d_X12_deals_103 (by decide) ?_
        refine V_lv [1, 2, 3, 4, 0] rfl (ih M5 (wr_i (x4 + 1)) (ok_wr _) h)
    · skip
      exact V_vret C hR d_X12_deals_106 (Option.some.inj h)
set_option maxHeartbeats 4000000 in
set_option maxRecDepth 100000 in
theorem t_X12_deals {X : XT_x} {G : GT_g} {M : Mem_m} {z : Mem_m} (d : Nat) (C : Cx_ (K_X12_deals (d + 1)) X G) (hR : Rx_ X G none) (rec : Mem_m → Nat → Int → Int → Int → Option Mem_m) (hrec : ∀ (M : Mem_m) (x0 : Nat) (x1 : Int) (x2 : Int) (x3 : Int) (o_x1 : ok_i x1) (o_x2 : ok_i x2) (o_x3 : ok_i x3) (z9 : Mem_m), rec M x0 x1 x2 x3 = some z9 → MV_ (x_l X) yX12_deals (K_X12_deals d) none G M [.ref (G.1 + x0), iv_i x1, iv_i x2, iv_i x3] z9) (x0 : Nat) (x1 : Int) (x2 : Int) (x3 : Int) (o_x1 : ok_i x1) (o_x2 : ok_i x2) (o_x3 : ok_i x3) (h : f_X12_deals_e G.2.2.2 rec M x0 x1 x2 x3 = some z) : V_ (K_X12_deals (d + 1)) X G (Fq_ X G (Qv_ G z)) M 0 [(0, .ref (G.1 + x0)), (1, iv_i x1), (2, iv_i x2), (3, iv_i x3)] [] := by
  unfold f_X12_deals_e at h
  refine V_iload_n (j := 1) C d_X12_deals_0 rfl rfl ?_
  refine V_aload_n (j := 0) C d_X12_deals_1 rfl rfl ?_
  refine V_getR C ck_12 fw_X12_9 d_X12_deals_2 h (fun v1 h => ?_)
  refine V_sipush (v := 1066) C d_X12_deals_5 rfl ?_
  refine V_iald C d_X12_deals_8 (okc rfl) h (fun v2 o2 h => ?_)
  refine V_icmp_ne (tgt := 49) C d_X12_deals_9 (by decide) o_x1 o2 h (fun h => ?_) (fun h => ?_)
  · skip
    refine V_aload_n (j := 0) C d_X12_deals_12 rfl rfl ?_
    refine V_callVwv (K' := K_X12_findLaws) (a := x0) (ci := 12) (av := []) (rest := []) yi_X12_findLaws (by decide) rfl C (yk_X12_findLaws) l1_X12_278 (Nat.le_trans (m := 3) (Nat.le_of_ble_eq_true rfl) (Nat.le_add_right _ _)) d_X12_deals_13 (fun v hv => ct_X12_findLaws x0 hv) rfl rfl (Nat.le_of_ble_eq_true rfl) h (fun M3 h => ?_)
    refine V_aload_n (j := 0) C d_X12_deals_16 rfl rfl ?_
    refine V_dup C d_X12_deals_17 rfl ?_
    refine V_getI C ck_12 fw_X12_284 d_X12_deals_18 h (fun v4 o4 h => ?_)
    refine V_iconst C d_X12_deals_21 ?_
    refine V_iadd C d_X12_deals_22 ?_
    refine V_putI C ck_12 fw_X12_284 fp_12_31 d_X12_deals_23 (ok_wr _) h (fun M5 h => ?_)
    refine V_aload_n (j := 0) C d_X12_deals_26 rfl rfl ?_
    refine V_dup C d_X12_deals_27 rfl ?_
    refine V_getI C ck_12 fw_X12_287 d_X12_deals_28 h (fun v6 o6 h => ?_)
    refine V_aload_n (j := 0) C d_X12_deals_31 rfl rfl ?_
    refine V_getI C ck_12 fw_X12_272 d_X12_deals_32 h (fun v7 o7 h => ?_)
    refine V_iload_n (j := 3) C d_X12_deals_35 rfl rfl ?_
    refine V_icmp_lt (tgt := 43) C d_X12_deals_36 (by decide) o7 o_x3 h (fun h => ?_) (fun h => ?_)
    · skip
      refine V_iconst C d_X12_deals_43 ?_
      refine V_iadd C d_X12_deals_44 ?_
      refine V_putI C ck_12 fw_X12_287 fp_12_32 d_X12_deals_45 (ok_wr _) h (fun M8 h => ?_)
      exact V_vret C hR d_X12_deals_48 (Option.some.inj h)
    · skip
      refine V_iconst C d_X12_deals_39 ?_
      refine V_goto (tgt := 44) C d_X12_deals_40 (by decide) ?_
      refine V_iadd C d_X12_deals_44 ?_
      refine V_putI C ck_12 fw_X12_287 fp_12_32 d_X12_deals_45 (ok_wr _) h (fun M9 h => ?_)
      exact V_vret C hR d_X12_deals_48 (Option.some.inj h)
  · skip
    refine V_iconst C d_X12_deals_49 ?_
    refine V_istore (lv' := [(4, iv_i 0), (0, .ref (G.1 + x0)), (1, iv_i x1), (2, iv_i x2), (3, iv_i x3)]) C d_X12_deals_50 (Nat.le_of_ble_eq_true rfl) rfl ?_
    refine V_lv [1, 2, 3, 4, 0] rfl (t_X12_deals_52 d C hR rec hrec x0 x1 x2 x3 o_x1 o_x2 o_x3 FU_ M 0 (okc rfl) h)
set_option maxHeartbeats 4000000 in
set_option maxRecDepth 100000 in
theorem ct_X12_deals {l : Launch} {G : GT_g} : ∀ (d : Nat) {M : Mem_m} (x0 : Nat) (x1 : Int) (x2 : Int) (x3 : Int) (o_x1 : ok_i x1) (o_x2 : ok_i x2) (o_x3 : ok_i x3) {z : Mem_m} (h : f_X12_deals d G.2.2.2 M x0 x1 x2 x3 = some z), MV_ l yX12_deals (K_X12_deals d) none G M [.ref (G.1 + x0), iv_i x1, iv_i x2, iv_i x3] z := by
  intro d
  induction d with
  | zero => intro M x0 x1 x2 x3 o_x1 o_x2 o_x3 z h; cases h
  | succ d ih =>
    intro M x0 x1 x2 x3 o_x1 o_x2 o_x3 z h
    exact met_of (by decide +kernel) rfl (Nat.le_of_ble_eq_true rfl) (fun X hl C hR => by subst hl; exact t_X12_deals d C hR (fun M x0 x1 x2 x3 => f_X12_deals d G.2.2.2 M x0 x1 x2 x3) (fun M x0 x1 x2 x3 o_x1 o_x2 o_x3 z9 h9 => ih x0 x1 x2 x3 o_x1 o_x2 o_x3 h9) x0 x1 x2 x3 o_x1 o_x2 o_x3 h)
theorem d_X12_odds_0 : decode cX12_odds 0 = .ok (.iload_n 1, 1) := by decide +kernel
theorem d_X12_odds_1 : decode cX12_odds 1 = .ok (.i2l, 1) := by decide +kernel
theorem d_X12_odds_2 : decode cX12_odds 2 = .ok (.lconst 0, 1) := by decide +kernel
theorem d_X12_odds_3 : decode cX12_odds 3 = .ok (.lconst 1, 1) := by decide +kernel
theorem d_X12_odds_4 : decode cX12_odds 4 = .ok (.invokestatic 69, 3) := by decide +kernel
theorem d_X12_odds_7 : decode cX12_odds 7 = .ok (.ifCond .ne 5, 3) := by decide +kernel
theorem d_X12_odds_10 : decode cX12_odds 10 = .ok (.iconst (-1), 1) := by decide +kernel
theorem d_X12_odds_11 : decode cX12_odds 11 = .ok (.ireturn, 1) := by decide +kernel
theorem d_X12_odds_12 : decode cX12_odds 12 = .ok (.aload_n 0, 1) := by decide +kernel
theorem d_X12_odds_13 : decode cX12_odds 13 = .ok (.getfield 9, 3) := by decide +kernel
theorem d_X12_odds_16 : decode cX12_odds 16 = .ok (.sipush 1066, 3) := by decide +kernel
theorem d_X12_odds_19 : decode cX12_odds 19 = .ok (.iaload, 1) := by decide +kernel
theorem d_X12_odds_20 : decode cX12_odds 20 = .ok (.bipush 7, 2) := by decide +kernel
theorem d_X12_odds_22 : decode cX12_odds 22 = .ok (.if_icmp .le 6, 3) := by decide +kernel
theorem d_X12_odds_25 : decode cX12_odds 25 = .ok (.bipush (-3), 2) := by decide +kernel
theorem d_X12_odds_27 : decode cX12_odds 27 = .ok (.ireturn, 1) := by decide +kernel
theorem d_X12_odds_28 : decode cX12_odds 28 = .ok (.aload_n 0, 1) := by decide +kernel
theorem d_X12_odds_29 : decode cX12_odds 29 = .ok (.invokevirtual 281, 3) := by decide +kernel
theorem d_X12_odds_32 : decode cX12_odds 32 = .ok (.aload_n 0, 1) := by decide +kernel
theorem d_X12_odds_33 : decode cX12_odds 33 = .ok (.iconst 0, 1) := by decide +kernel
theorem d_X12_odds_34 : decode cX12_odds 34 = .ok (.putfield 284, 3) := by decide +kernel
theorem d_X12_odds_37 : decode cX12_odds 37 = .ok (.aload_n 0, 1) := by decide +kernel
theorem d_X12_odds_38 : decode cX12_odds 38 = .ok (.iconst 0, 1) := by decide +kernel
theorem d_X12_odds_39 : decode cX12_odds 39 = .ok (.putfield 287, 3) := by decide +kernel
theorem d_X12_odds_42 : decode cX12_odds 42 = .ok (.aload_n 0, 1) := by decide +kernel
theorem d_X12_odds_43 : decode cX12_odds 43 = .ok (.iconst 0, 1) := by decide +kernel
theorem d_X12_odds_44 : decode cX12_odds 44 = .ok (.iconst 0, 1) := by decide +kernel
theorem d_X12_odds_45 : decode cX12_odds 45 = .ok (.aload_n 0, 1) := by decide +kernel
theorem d_X12_odds_46 : decode cX12_odds 46 = .ok (.getfield 272, 3) := by decide +kernel
theorem d_X12_odds_49 : decode cX12_odds 49 = .ok (.invokevirtual 290, 3) := by decide +kernel
theorem d_X12_odds_52 : decode cX12_odds 52 = .ok (.iload_n 1, 1) := by decide +kernel
theorem d_X12_odds_53 : decode cX12_odds 53 = .ok (.ifCond .ne 10, 3) := by decide +kernel
theorem d_X12_odds_56 : decode cX12_odds 56 = .ok (.aload_n 0, 1) := by decide +kernel
theorem d_X12_odds_57 : decode cX12_odds 57 = .ok (.getfield 287, 3) := by decide +kernel
theorem d_X12_odds_60 : decode cX12_odds 60 = .ok (.goto 7, 3) := by decide +kernel
theorem d_X12_odds_63 : decode cX12_odds 63 = .ok (.aload_n 0, 1) := by decide +kernel
theorem d_X12_odds_64 : decode cX12_odds 64 = .ok (.getfield 284, 3) := by decide +kernel
theorem d_X12_odds_67 : decode cX12_odds 67 = .ok (.ireturn, 1) := by decide +kernel
set_option maxHeartbeats 4000000 in
set_option maxRecDepth 100000 in
theorem t_X12_odds {X : XT_x} {G : GT_g} {M : Mem_m} {z : (Mem_m × Int)} (C : Cx_ (K_X12_odds) X G) (hR : Rx_ X G (some .int)) (x0 : Nat) (x1 : Int) (o_x1 : ok_i x1) (h : f_X12_odds G.2.2.2 M x0 x1 = some z) : V_ (K_X12_odds) X G (Fq_ X G (Qi_ G z.1 z.2)) M 0 [(0, .ref (G.1 + x0)), (1, iv_i x1)] [] := by
  unfold f_X12_odds at h
  refine V_iload_n (j := 1) C d_X12_odds_0 rfl rfl ?_
  refine V_i2l C d_X12_odds_1 o_x1 ?_
  refine V_lconst0 C d_X12_odds_2 ?_
  refine V_lconst1 C d_X12_odds_3 ?_
  refine V_callSri (K' := K_X12_isIn) (av := [jv_i x1, jv_i 0, jv_i 1]) (rest := []) ys_X12_isIn C (yk_X12_isIn) l1_X12_69 (by decide) d_X12_odds_4 (fun v hv => ct_X12_isIn x1 0 1 o_x1 (okc rfl) (okc rfl) hv) rfl rfl (Nat.le_of_ble_eq_true rfl) h (fun v1 o1 h => ?_)
  refine V_if_ne (tgt := 12) C d_X12_odds_7 (by decide) o1 h (fun h => ?_) (fun h => ?_)
  · skip
    refine V_iconst C d_X12_odds_10 ?_
    exact V_iret_w C hR d_X12_odds_11 (okc rfl) h
  · skip
    refine V_aload_n (j := 0) C d_X12_odds_12 rfl rfl ?_
    refine V_getR C ck_12 fw_X12_9 d_X12_odds_13 h (fun v2 h => ?_)
    refine V_sipush (v := 1066) C d_X12_odds_16 rfl ?_
    refine V_iald C d_X12_odds_19 (okc rfl) h (fun v3 o3 h => ?_)
    refine V_bipush (v := 7) C d_X12_odds_20 rfl ?_
    refine V_icmp_le (tgt := 28) C d_X12_odds_22 (by decide) o3 (okc rfl) h (fun h => ?_) (fun h => ?_)
    · skip
      refine V_aload_n (j := 0) C d_X12_odds_28 rfl rfl ?_
      refine V_callVwv (K' := K_X12_asItIs) (a := x0) (ci := 12) (av := []) (rest := []) yi_X12_asItIs (by decide) rfl C (yk_X12_asItIs) l1_X12_281 (by decide) d_X12_odds_29 (fun v hv => ct_X12_asItIs x0 hv) rfl rfl (Nat.le_of_ble_eq_true rfl) h (fun M4 h => ?_)
      refine V_aload_n (j := 0) C d_X12_odds_32 rfl rfl ?_
      refine V_iconst C d_X12_odds_33 ?_
      refine V_putI C ck_12 fw_X12_284 fp_12_31 d_X12_odds_34 (okc rfl) h (fun M5 h => ?_)
      refine V_aload_n (j := 0) C d_X12_odds_37 rfl rfl ?_
      refine V_iconst C d_X12_odds_38 ?_
      refine V_putI C ck_12 fw_X12_287 fp_12_32 d_X12_odds_39 (okc rfl) h (fun M6 h => ?_)
      refine V_aload_n (j := 0) C d_X12_odds_42 rfl rfl ?_
      refine V_iconst C d_X12_odds_43 ?_
      refine V_iconst C d_X12_odds_44 ?_
      refine V_aload_n (j := 0) C d_X12_odds_45 rfl rfl ?_
      refine V_getI C ck_12 fw_X12_272 d_X12_odds_46 h (fun v7 o7 h => ?_)
      refine V_callVwv (K' := K_X12_deals 12) (a := x0) (ci := 12) (av := [iv_i 0, iv_i 0, iv_i v7]) (rest := []) yi_X12_deals (by decide) rfl C (yk_X12_deals _) l1_X12_290 (by decide) d_X12_odds_49 (fun v hv => ct_X12_deals 12 x0 0 0 v7 (okc rfl) (okc rfl) o7 hv) rfl rfl (Nat.le_of_ble_eq_true rfl) h (fun M8 h => ?_)
      refine V_iload_n (j := 1) C d_X12_odds_52 rfl rfl ?_
      refine V_if_ne (tgt := 63) C d_X12_odds_53 (by decide) o_x1 h (fun h => ?_) (fun h => ?_)
      · skip
        refine V_aload_n (j := 0) C d_X12_odds_56 rfl rfl ?_
        refine V_getI C ck_12 fw_X12_287 d_X12_odds_57 h (fun v9 o9 h => ?_)
        refine V_goto (tgt := 67) C d_X12_odds_60 (by decide) ?_
        exact V_iret_w C hR d_X12_odds_67 o9 h
      · skip
        refine V_aload_n (j := 0) C d_X12_odds_63 rfl rfl ?_
        refine V_getI C ck_12 fw_X12_284 d_X12_odds_64 h (fun v10 o10 h => ?_)
        exact V_iret_w C hR d_X12_odds_67 o10 h
    · skip
      refine V_bipush (v := (-3)) C d_X12_odds_25 rfl ?_
      exact V_iret_w C hR d_X12_odds_27 (okc rfl) h
set_option maxHeartbeats 4000000 in
set_option maxRecDepth 100000 in
theorem ct_X12_odds {l : Launch} {G : GT_g} {M : Mem_m} (x0 : Nat) (x1 : Int) (o_x1 : ok_i x1) {z : (Mem_m × Int)} (h : f_X12_odds G.2.2.2 M x0 x1 = some z) : MI_ l yX12_odds K_X12_odds (some .int) G M [.ref (G.1 + x0), iv_i x1] z.1 z.2 :=
  met_of (by decide +kernel) rfl (Nat.le_of_ble_eq_true rfl) (fun X hl C hR => by subst hl; exact t_X12_odds C hR x0 x1 o_x1 h)
theorem d_X12_bar_0 : decode cX12_bar 0 = .ok (.iload_n 1, 1) := by decide +kernel
theorem d_X12_bar_1 : decode cX12_bar 1 = .ok (.i2l, 1) := by decide +kernel
theorem d_X12_bar_2 : decode cX12_bar 2 = .ok (.lconst 0, 1) := by decide +kernel
theorem d_X12_bar_3 : decode cX12_bar 3 = .ok (.ldc2_w 73, 3) := by decide +kernel
theorem d_X12_bar_6 : decode cX12_bar 6 = .ok (.invokestatic 69, 3) := by decide +kernel
theorem d_X12_bar_9 : decode cX12_bar 9 = .ok (.ifCond .ne 5, 3) := by decide +kernel
theorem d_X12_bar_12 : decode cX12_bar 12 = .ok (.iconst (-1), 1) := by decide +kernel
theorem d_X12_bar_13 : decode cX12_bar 13 = .ok (.ireturn, 1) := by decide +kernel
theorem d_X12_bar_14 : decode cX12_bar 14 = .ok (.iconst 0, 1) := by decide +kernel
theorem d_X12_bar_15 : decode cX12_bar 15 = .ok (.istore_n 3, 1) := by decide +kernel
theorem d_X12_bar_16 : decode cX12_bar 16 = .ok (.iconst 0, 1) := by decide +kernel
theorem d_X12_bar_17 : decode cX12_bar 17 = .ok (.istore 4, 2) := by decide +kernel
theorem d_X12_bar_19 : decode cX12_bar 19 = .ok (.iload 4, 2) := by decide +kernel
theorem d_X12_bar_21 : decode cX12_bar 21 = .ok (.aload_n 0, 1) := by decide +kernel
theorem d_X12_bar_22 : decode cX12_bar 22 = .ok (.getfield 9, 3) := by decide +kernel
theorem d_X12_bar_25 : decode cX12_bar 25 = .ok (.sipush 1062, 3) := by decide +kernel
theorem d_X12_bar_28 : decode cX12_bar 28 = .ok (.iaload, 1) := by decide +kernel
theorem d_X12_bar_29 : decode cX12_bar 29 = .ok (.if_icmp .ge 73, 3) := by decide +kernel
theorem d_X12_bar_32 : decode cX12_bar 32 = .ok (.aload_n 0, 1) := by decide +kernel
theorem d_X12_bar_33 : decode cX12_bar 33 = .ok (.iload 4, 2) := by decide +kernel
theorem d_X12_bar_35 : decode cX12_bar 35 = .ok (.bipush 10, 2) := by decide +kernel
theorem d_X12_bar_37 : decode cX12_bar 37 = .ok (.invokevirtual 98, 3) := by decide +kernel
theorem d_X12_bar_40 : decode cX12_bar 40 = .ok (.iload_n 1, 1) := by decide +kernel
theorem d_X12_bar_41 : decode cX12_bar 41 = .ok (.if_icmp .ne 55, 3) := by decide +kernel
theorem d_X12_bar_44 : decode cX12_bar 44 = .ok (.aload_n 0, 1) := by decide +kernel
theorem d_X12_bar_45 : decode cX12_bar 45 = .ok (.iload 4, 2) := by decide +kernel
theorem d_X12_bar_47 : decode cX12_bar 47 = .ok (.bipush 14, 2) := by decide +kernel
theorem d_X12_bar_49 : decode cX12_bar 49 = .ok (.invokevirtual 98, 3) := by decide +kernel
theorem d_X12_bar_52 : decode cX12_bar 52 = .ok (.iload_n 2, 1) := by decide +kernel
theorem d_X12_bar_53 : decode cX12_bar 53 = .ok (.ifCond .eq 7, 3) := by decide +kernel
theorem d_X12_bar_56 : decode cX12_bar 56 = .ok (.iconst 0, 1) := by decide +kernel
theorem d_X12_bar_57 : decode cX12_bar 57 = .ok (.goto 4, 3) := by decide +kernel
theorem d_X12_bar_60 : decode cX12_bar 60 = .ok (.iconst 1, 1) := by decide +kernel
theorem d_X12_bar_61 : decode cX12_bar 61 = .ok (.if_icmp .ne 35, 3) := by decide +kernel
theorem d_X12_bar_64 : decode cX12_bar 64 = .ok (.iload_n 3, 1) := by decide +kernel
theorem d_X12_bar_65 : decode cX12_bar 65 = .ok (.aload_n 0, 1) := by decide +kernel
theorem d_X12_bar_66 : decode cX12_bar 66 = .ok (.bipush 15, 2) := by decide +kernel
theorem d_X12_bar_68 : decode cX12_bar 68 = .ok (.iload 4, 2) := by decide +kernel
theorem d_X12_bar_70 : decode cX12_bar 70 = .ok (.imul, 1) := by decide +kernel
theorem d_X12_bar_71 : decode cX12_bar 71 = .ok (.bipush 14, 2) := by decide +kernel
theorem d_X12_bar_73 : decode cX12_bar 73 = .ok (.iadd, 1) := by decide +kernel
theorem d_X12_bar_74 : decode cX12_bar 74 = .ok (.iload_n 2, 1) := by decide +kernel
theorem d_X12_bar_75 : decode cX12_bar 75 = .ok (.ifCond .eq 7, 3) := by decide +kernel
theorem d_X12_bar_78 : decode cX12_bar 78 = .ok (.iconst 1, 1) := by decide +kernel
theorem d_X12_bar_79 : decode cX12_bar 79 = .ok (.goto 4, 3) := by decide +kernel
theorem d_X12_bar_82 : decode cX12_bar 82 = .ok (.iconst 0, 1) := by decide +kernel
theorem d_X12_bar_83 : decode cX12_bar 83 = .ok (.invokevirtual 103, 3) := by decide +kernel
theorem d_X12_bar_86 : decode cX12_bar 86 = .ok (.ifCond .lt 7, 3) := by decide +kernel
theorem d_X12_bar_89 : decode cX12_bar 89 = .ok (.iconst 1, 1) := by decide +kernel
theorem d_X12_bar_90 : decode cX12_bar 90 = .ok (.goto 4, 3) := by decide +kernel
theorem d_X12_bar_93 : decode cX12_bar 93 = .ok (.iconst 0, 1) := by decide +kernel
theorem d_X12_bar_94 : decode cX12_bar 94 = .ok (.iadd, 1) := by decide +kernel
theorem d_X12_bar_95 : decode cX12_bar 95 = .ok (.istore_n 3, 1) := by decide +kernel
theorem d_X12_bar_96 : decode cX12_bar 96 = .ok (.iinc 4 1, 3) := by decide +kernel
theorem d_X12_bar_99 : decode cX12_bar 99 = .ok (.goto (-80), 3) := by decide +kernel
theorem d_X12_bar_102 : decode cX12_bar 102 = .ok (.iload_n 3, 1) := by decide +kernel
theorem d_X12_bar_103 : decode cX12_bar 103 = .ok (.ireturn, 1) := by decide +kernel
set_option maxHeartbeats 4000000 in
set_option maxRecDepth 100000 in
theorem t_X12_bar_83 {X : XT_x} {G : GT_g} {z : (Mem_m × Int)} (C : Cx_ (K_X12_bar) X G) (hR : Rx_ X G (some .int)) (M : Mem_m) (x0 : Nat) (x1 : Int) (x2 : Int) (x4 : Int) (s0 : Int) (s1 : Int) (s2 : Nat) (s3 : Int) (o_x1 : ok_i x1) (o_x2 : ok_i x2) (o_x4 : ok_i x4) (o_s0 : ok_i s0) (o_s1 : ok_i s1) (o_s3 : ok_i s3) (k_19 : Mem_m → Int → Int → Option (Mem_m × Int)) (hk_19 : ∀ (M : Mem_m) (x3 : Int) (x4 : Int) (o_x3 : ok_i x3) (o_x4 : ok_i x4), k_19 M x3 x4 = some z → V_ (K_X12_bar) X G (Fq_ X G (Qi_ G z.1 z.2)) M 19 [(0, .ref (G.1 + x0)), (1, iv_i x1), (2, iv_i x2), (3, iv_i x3), (4, iv_i x4)] []) (h : f_X12_bar_83 G.2.2.2 k_19 M x0 x1 x2 x4 s0 s1 s2 s3 = some z) : V_ (K_X12_bar) X G (Fq_ X G (Qi_ G z.1 z.2)) M 83 [(0, .ref (G.1 + x0)), (1, iv_i x1), (2, iv_i x2), (4, iv_i x4)] [iv_i s0, iv_i s1, .ref (G.1 + s2), iv_i s3] := by
  unfold f_X12_bar_83 at h
  refine V_callVwi (K' := K_X12_becomes) (a := s2) (ci := 12) (av := [iv_i s1, iv_i s0]) (rest := [iv_i s3]) yi_X12_becomes (by decide) rfl C (yk_X12_becomes) l1_X12_103 (by decide) d_X12_bar_83 (fun v hv => ct_X12_becomes s2 s1 s0 o_s1 o_s0 hv) rfl rfl (Nat.le_of_ble_eq_true rfl) h (fun z1 o1 h => ?_)
  refine V_if_lt (tgt := 93) C d_X12_bar_86 (by decide) o1 h (fun h => ?_) (fun h => ?_)
  · skip
    refine V_iconst C d_X12_bar_93 ?_
    refine V_iadd C d_X12_bar_94 ?_
    refine V_istore_n (lv' := [(3, iv_i (wr_i (s3 + 0))), (0, .ref (G.1 + x0)), (1, iv_i x1), (2, iv_i x2), (4, iv_i x4)]) C d_X12_bar_95 rfl (by decide) rfl ?_
    refine V_iinc (j := 4) (lv' := [(4, iv_i (wr_i (x4 + 1))), (3, iv_i (wr_i (s3 + 0))), (0, .ref (G.1 + x0)), (1, iv_i x1), (2, iv_i x2)]) C d_X12_bar_96 rfl (by decide) rfl ?_
    refine V_goto (tgt := 19) C d_X12_bar_99 (by decide) ?_
    refine V_lv [2, 3, 4, 1, 0] rfl (hk_19 z1.1 (wr_i (s3 + 0)) (wr_i (x4 + 1)) (ok_wr _) (ok_wr _) h)
  · skip
    refine V_iconst C d_X12_bar_89 ?_
    refine V_goto (tgt := 94) C d_X12_bar_90 (by decide) ?_
    refine V_iadd C d_X12_bar_94 ?_
    refine V_istore_n (lv' := [(3, iv_i (wr_i (s3 + 1))), (0, .ref (G.1 + x0)), (1, iv_i x1), (2, iv_i x2), (4, iv_i x4)]) C d_X12_bar_95 rfl (by decide) rfl ?_
    refine V_iinc (j := 4) (lv' := [(4, iv_i (wr_i (x4 + 1))), (3, iv_i (wr_i (s3 + 1))), (0, .ref (G.1 + x0)), (1, iv_i x1), (2, iv_i x2)]) C d_X12_bar_96 rfl (by decide) rfl ?_
    refine V_goto (tgt := 19) C d_X12_bar_99 (by decide) ?_
    refine V_lv [2, 3, 4, 1, 0] rfl (hk_19 z1.1 (wr_i (s3 + 1)) (wr_i (x4 + 1)) (ok_wr _) (ok_wr _) h)
set_option maxHeartbeats 4000000 in
set_option maxRecDepth 100000 in
theorem t_X12_bar_61 {X : XT_x} {G : GT_g} {z : (Mem_m × Int)} (C : Cx_ (K_X12_bar) X G) (hR : Rx_ X G (some .int)) (M : Mem_m) (x0 : Nat) (x1 : Int) (x2 : Int) (x3 : Int) (x4 : Int) (s0 : Int) (s1 : Int) (o_x1 : ok_i x1) (o_x2 : ok_i x2) (o_x3 : ok_i x3) (o_x4 : ok_i x4) (o_s0 : ok_i s0) (o_s1 : ok_i s1) (k_19 : Mem_m → Int → Int → Option (Mem_m × Int)) (hk_19 : ∀ (M : Mem_m) (x3 : Int) (x4 : Int) (o_x3 : ok_i x3) (o_x4 : ok_i x4), k_19 M x3 x4 = some z → V_ (K_X12_bar) X G (Fq_ X G (Qi_ G z.1 z.2)) M 19 [(0, .ref (G.1 + x0)), (1, iv_i x1), (2, iv_i x2), (3, iv_i x3), (4, iv_i x4)] []) (h : f_X12_bar_61 G.2.2.2 k_19 M x0 x1 x2 x3 x4 s0 s1 = some z) : V_ (K_X12_bar) X G (Fq_ X G (Qi_ G z.1 z.2)) M 61 [(0, .ref (G.1 + x0)), (1, iv_i x1), (2, iv_i x2), (3, iv_i x3), (4, iv_i x4)] [iv_i s0, iv_i s1] := by
  unfold f_X12_bar_61 at h
  refine V_icmp_ne (tgt := 96) C d_X12_bar_61 (by decide) o_s1 o_s0 h (fun h => ?_) (fun h => ?_)
  · skip
    refine V_iload_n (j := 3) C d_X12_bar_64 rfl rfl ?_
    refine V_aload_n (j := 0) C d_X12_bar_65 rfl rfl ?_
    refine V_bipush (v := 15) C d_X12_bar_66 rfl ?_
    refine V_iload (j := 4) C d_X12_bar_68 rfl ?_
    refine V_imul C d_X12_bar_70 ?_
    refine V_bipush (v := 14) C d_X12_bar_71 rfl ?_
    refine V_iadd C d_X12_bar_73 ?_
    refine V_iload_n (j := 2) C d_X12_bar_74 rfl rfl ?_
    refine V_if_eq (tgt := 82) C d_X12_bar_75 (by decide) o_x2 h (fun h => ?_) (fun h => ?_)
    · skip
      refine V_iconst C d_X12_bar_82 ?_
      refine V_lv [0, 1, 2, 4] rfl (t_X12_bar_83 C hR M x0 x1 x2 x4 0 (wr_i ((wr_i (15 * x4)) + 14)) x0 x3 o_x1 o_x2 o_x4 (okc rfl) (ok_wr _) o_x3 k_19 hk_19 h)
    · skip
      refine V_iconst C d_X12_bar_78 ?_
      refine V_goto (tgt := 83) C d_X12_bar_79 (by decide) ?_
      refine V_lv [0, 1, 2, 4] rfl (t_X12_bar_83 C hR M x0 x1 x2 x4 1 (wr_i ((wr_i (15 * x4)) + 14)) x0 x3 o_x1 o_x2 o_x4 (okc rfl) (ok_wr _) o_x3 k_19 hk_19 h)
  · skip
    refine V_iinc (j := 4) (lv' := [(4, iv_i (wr_i (x4 + 1))), (0, .ref (G.1 + x0)), (1, iv_i x1), (2, iv_i x2), (3, iv_i x3)]) C d_X12_bar_96 rfl (by decide) rfl ?_
    refine V_goto (tgt := 19) C d_X12_bar_99 (by decide) ?_
    refine V_lv [1, 2, 3, 4, 0] rfl (hk_19 M x3 (wr_i (x4 + 1)) o_x3 (ok_wr _) h)
set_option maxHeartbeats 4000000 in
set_option maxRecDepth 100000 in
theorem t_X12_bar_19 {X : XT_x} {G : GT_g} {z : (Mem_m × Int)} (C : Cx_ (K_X12_bar) X G) (hR : Rx_ X G (some .int)) (x0 : Nat) (x1 : Int) (x2 : Int) (o_x1 : ok_i x1) (o_x2 : ok_i x2) : ∀ (n : Nat) (M : Mem_m) (x3 : Int) (x4 : Int) (o_x3 : ok_i x3) (o_x4 : ok_i x4), f_X12_bar_19 G.2.2.2 x0 x1 x2 n M x3 x4 = some z → V_ (K_X12_bar) X G (Fq_ X G (Qi_ G z.1 z.2)) M 19 [(0, .ref (G.1 + x0)), (1, iv_i x1), (2, iv_i x2), (3, iv_i x3), (4, iv_i x4)] [] := by
  intro n
  induction n with
  | zero => intro M x3 x4 o_x3 o_x4 h; exact absurd h (by simp [f_X12_bar_19])
  | succ n ih =>
    intro M x3 x4 o_x3 o_x4 h
    unfold f_X12_bar_19 at h
    refine V_iload (j := 4) C d_X12_bar_19 rfl ?_
    refine V_aload_n (j := 0) C d_X12_bar_21 rfl rfl ?_
    refine V_getR C ck_12 fw_X12_9 d_X12_bar_22 h (fun v1 h => ?_)
    refine V_sipush (v := 1062) C d_X12_bar_25 rfl ?_
    refine V_iald C d_X12_bar_28 (okc rfl) h (fun v2 o2 h => ?_)
    refine V_icmp_ge (tgt := 102) C d_X12_bar_29 (by decide) o_x4 o2 h (fun h => ?_) (fun h => ?_)
    · skip
      refine V_aload_n (j := 0) C d_X12_bar_32 rfl rfl ?_
      refine V_iload (j := 4) C d_X12_bar_33 rfl ?_
      refine V_bipush (v := 10) C d_X12_bar_35 rfl ?_
      refine V_callVri (K' := K_X12_of) (a := x0) (ci := 12) (av := [iv_i x4, iv_i 10]) (rest := []) yi_X12_of (by decide) rfl C (yk_X12_of) l1_X12_98 (by decide) d_X12_bar_37 (fun v hv => ct_X12_of x0 x4 10 o_x4 (okc rfl) hv) rfl rfl (Nat.le_of_ble_eq_true rfl) h (fun v3 o3 h => ?_)
      refine V_iload_n (j := 1) C d_X12_bar_40 rfl rfl ?_
      refine V_icmp_ne (tgt := 96) C d_X12_bar_41 (by decide) o3 o_x1 h (fun h => ?_) (fun h => ?_)
      · skip
        refine V_aload_n (j := 0) C d_X12_bar_44 rfl rfl ?_
        refine V_iload (j := 4) C d_X12_bar_45 rfl ?_
        refine V_bipush (v := 14) C d_X12_bar_47 rfl ?_
        refine V_callVri (K' := K_X12_of) (a := x0) (ci := 12) (av := [iv_i x4, iv_i 14]) (rest := []) yi_X12_of (by decide) rfl C (yk_X12_of) l1_X12_98 (by decide) d_X12_bar_49 (fun v hv => ct_X12_of x0 x4 14 o_x4 (okc rfl) hv) rfl rfl (Nat.le_of_ble_eq_true rfl) h (fun v4 o4 h => ?_)
        refine V_iload_n (j := 2) C d_X12_bar_52 rfl rfl ?_
        refine V_if_eq (tgt := 60) C d_X12_bar_53 (by decide) o_x2 h (fun h => ?_) (fun h => ?_)
        · skip
          refine V_iconst C d_X12_bar_60 ?_
          refine V_lv [0, 1, 2, 3, 4] rfl (t_X12_bar_61 C hR M x0 x1 x2 x3 x4 1 v4 o_x1 o_x2 o_x3 o_x4 (okc rfl) o4 (fun M x3 x4 => f_X12_bar_19 G.2.2.2 x0 x1 x2 n M x3 x4) (fun M x3 x4 o_x3 o_x4 h9 => ih M x3 x4 o_x3 o_x4 h9) h)
        · skip
          refine V_iconst C d_X12_bar_56 ?_
          refine V_goto (tgt := 61) C d_X12_bar_57 (by decide) ?_
          refine V_lv [0, 1, 2, 3, 4] rfl (t_X12_bar_61 C hR M x0 x1 x2 x3 x4 0 v4 o_x1 o_x2 o_x3 o_x4 (okc rfl) o4 (fun M x3 x4 => f_X12_bar_19 G.2.2.2 x0 x1 x2 n M x3 x4) (fun M x3 x4 o_x3 o_x4 h9 => ih M x3 x4 o_x3 o_x4 h9) h)
      · skip
        refine V_iinc (j := 4) (lv' := [(4, iv_i (wr_i (x4 + 1))), (0, .ref (G.1 + x0)), (1, iv_i x1), (2, iv_i x2), (3, iv_i x3)]) C d_X12_bar_96 rfl (by decide) rfl ?_
        refine V_goto (tgt := 19) C d_X12_bar_99 (by decide) ?_
        refine V_lv [1, 2, 3, 4, 0] rfl (ih M x3 (wr_i (x4 + 1)) o_x3 (ok_wr _) h)
    · skip
      refine V_iload_n (j := 3) C d_X12_bar_102 rfl rfl ?_
      exact V_iret_w C hR d_X12_bar_103 o_x3 h
set_option maxHeartbeats 4000000 in
set_option maxRecDepth 100000 in
theorem t_X12_bar {X : XT_x} {G : GT_g} {M : Mem_m} {z : (Mem_m × Int)} (C : Cx_ (K_X12_bar) X G) (hR : Rx_ X G (some .int)) (x0 : Nat) (x1 : Int) (x2 : Int) (o_x1 : ok_i x1) (o_x2 : ok_i x2) (h : f_X12_bar G.2.2.2 M x0 x1 x2 = some z) : V_ (K_X12_bar) X G (Fq_ X G (Qi_ G z.1 z.2)) M 0 [(0, .ref (G.1 + x0)), (1, iv_i x1), (2, iv_i x2)] [] := by
  unfold f_X12_bar at h
  refine V_iload_n (j := 1) C d_X12_bar_0 rfl rfl ?_
  refine V_i2l C d_X12_bar_1 o_x1 ?_
  refine V_lconst0 C d_X12_bar_2 ?_
  refine V_ldc2 (v := 7) C d_X12_bar_3 cl_X12_73 ?_
  refine V_callSri (K' := K_X12_isIn) (av := [jv_i x1, jv_i 0, jv_i 7]) (rest := []) ys_X12_isIn C (yk_X12_isIn) l1_X12_69 (by decide) d_X12_bar_6 (fun v hv => ct_X12_isIn x1 0 7 o_x1 (okc rfl) (okc rfl) hv) rfl rfl (Nat.le_of_ble_eq_true rfl) h (fun v1 o1 h => ?_)
  refine V_if_ne (tgt := 14) C d_X12_bar_9 (by decide) o1 h (fun h => ?_) (fun h => ?_)
  · skip
    refine V_iconst C d_X12_bar_12 ?_
    exact V_iret_w C hR d_X12_bar_13 (okc rfl) h
  · skip
    refine V_iconst C d_X12_bar_14 ?_
    refine V_istore_n (lv' := [(3, iv_i 0), (0, .ref (G.1 + x0)), (1, iv_i x1), (2, iv_i x2)]) C d_X12_bar_15 rfl (by decide) rfl ?_
    refine V_iconst C d_X12_bar_16 ?_
    refine V_istore (lv' := [(4, iv_i 0), (3, iv_i 0), (0, .ref (G.1 + x0)), (1, iv_i x1), (2, iv_i x2)]) C d_X12_bar_17 (by decide) rfl ?_
    refine V_lv [2, 3, 4, 1, 0] rfl (t_X12_bar_19 C hR x0 x1 x2 o_x1 o_x2 FU_ M 0 0 (okc rfl) (okc rfl) h)
set_option maxHeartbeats 4000000 in
set_option maxRecDepth 100000 in
theorem ct_X12_bar {l : Launch} {G : GT_g} {M : Mem_m} (x0 : Nat) (x1 : Int) (x2 : Int) (o_x1 : ok_i x1) (o_x2 : ok_i x2) {z : (Mem_m × Int)} (h : f_X12_bar G.2.2.2 M x0 x1 x2 = some z) : MI_ l yX12_bar K_X12_bar (some .int) G M [.ref (G.1 + x0), iv_i x1, iv_i x2] z.1 z.2 :=
  met_of (by decide +kernel) rfl (Nat.le_of_ble_eq_true rfl) (fun X hl C hR => by subst hl; exact t_X12_bar C hR x0 x1 x2 o_x1 o_x2 h)
theorem d_X12_takeBack_0 : decode cX12_takeBack 0 = .ok (.aload_n 0, 1) := by decide +kernel
theorem d_X12_takeBack_1 : decode cX12_takeBack 1 = .ok (.iload_n 1, 1) := by decide +kernel
theorem d_X12_takeBack_2 : decode cX12_takeBack 2 = .ok (.invokevirtual 93, 3) := by decide +kernel
theorem d_X12_takeBack_5 : decode cX12_takeBack 5 = .ok (.ifCond .ne 7, 3) := by decide +kernel
theorem d_X12_takeBack_8 : decode cX12_takeBack 8 = .ok (.iconst (-1), 1) := by decide +kernel
theorem d_X12_takeBack_9 : decode cX12_takeBack 9 = .ok (.goto 24, 3) := by decide +kernel
theorem d_X12_takeBack_12 : decode cX12_takeBack 12 = .ok (.aload_n 0, 1) := by decide +kernel
theorem d_X12_takeBack_13 : decode cX12_takeBack 13 = .ok (.bipush 15, 2) := by decide +kernel
theorem d_X12_takeBack_15 : decode cX12_takeBack 15 = .ok (.iload_n 1, 1) := by decide +kernel
theorem d_X12_takeBack_16 : decode cX12_takeBack 16 = .ok (.imul, 1) := by decide +kernel
theorem d_X12_takeBack_17 : decode cX12_takeBack 17 = .ok (.bipush 14, 2) := by decide +kernel
theorem d_X12_takeBack_19 : decode cX12_takeBack 19 = .ok (.iadd, 1) := by decide +kernel
theorem d_X12_takeBack_20 : decode cX12_takeBack 20 = .ok (.iconst 2, 1) := by decide +kernel
theorem d_X12_takeBack_21 : decode cX12_takeBack 21 = .ok (.invokevirtual 103, 3) := by decide +kernel
theorem d_X12_takeBack_24 : decode cX12_takeBack 24 = .ok (.iconst 2, 1) := by decide +kernel
theorem d_X12_takeBack_25 : decode cX12_takeBack 25 = .ok (.if_icmp .ne 7, 3) := by decide +kernel
theorem d_X12_takeBack_28 : decode cX12_takeBack 28 = .ok (.iconst 0, 1) := by decide +kernel
theorem d_X12_takeBack_29 : decode cX12_takeBack 29 = .ok (.goto 4, 3) := by decide +kernel
theorem d_X12_takeBack_32 : decode cX12_takeBack 32 = .ok (.iconst 1, 1) := by decide +kernel
theorem d_X12_takeBack_33 : decode cX12_takeBack 33 = .ok (.ireturn, 1) := by decide +kernel
set_option maxHeartbeats 4000000 in
set_option maxRecDepth 100000 in
theorem t_X12_takeBack {X : XT_x} {G : GT_g} {M : Mem_m} {z : (Mem_m × Int)} (C : Cx_ (K_X12_takeBack) X G) (hR : Rx_ X G (some .int)) (x0 : Nat) (x1 : Int) (o_x1 : ok_i x1) (h : f_X12_takeBack G.2.2.2 M x0 x1 = some z) : V_ (K_X12_takeBack) X G (Fq_ X G (Qi_ G z.1 z.2)) M 0 [(0, .ref (G.1 + x0)), (1, iv_i x1)] [] := by
  unfold f_X12_takeBack at h
  refine V_aload_n (j := 0) C d_X12_takeBack_0 rfl rfl ?_
  refine V_iload_n (j := 1) C d_X12_takeBack_1 rfl rfl ?_
  refine V_callVri (K' := K_X12_isCard) (a := x0) (ci := 12) (av := [iv_i x1]) (rest := []) yi_X12_isCard (by decide) rfl C (yk_X12_isCard) l1_X12_93 (by decide) d_X12_takeBack_2 (fun v hv => ct_X12_isCard x0 x1 o_x1 hv) rfl rfl (Nat.le_of_ble_eq_true rfl) h (fun v1 o1 h => ?_)
  refine V_if_ne (tgt := 12) C d_X12_takeBack_5 (by decide) o1 h (fun h => ?_) (fun h => ?_)
  · skip
    refine V_iconst C d_X12_takeBack_8 ?_
    refine V_goto (tgt := 33) C d_X12_takeBack_9 (by decide) ?_
    exact V_iret_w C hR d_X12_takeBack_33 (okc rfl) h
  · skip
    refine V_aload_n (j := 0) C d_X12_takeBack_12 rfl rfl ?_
    refine V_bipush (v := 15) C d_X12_takeBack_13 rfl ?_
    refine V_iload_n (j := 1) C d_X12_takeBack_15 rfl rfl ?_
    refine V_imul C d_X12_takeBack_16 ?_
    refine V_bipush (v := 14) C d_X12_takeBack_17 rfl ?_
    refine V_iadd C d_X12_takeBack_19 ?_
    refine V_iconst C d_X12_takeBack_20 ?_
    refine V_callVwi (K' := K_X12_becomes) (a := x0) (ci := 12) (av := [iv_i (wr_i ((wr_i (15 * x1)) + 14)), iv_i 2]) (rest := []) yi_X12_becomes (by decide) rfl C (yk_X12_becomes) l1_X12_103 (by decide) d_X12_takeBack_21 (fun v hv => ct_X12_becomes x0 (wr_i ((wr_i (15 * x1)) + 14)) 2 (ok_wr _) (okc rfl) hv) rfl rfl (Nat.le_of_ble_eq_true rfl) h (fun z2 o2 h => ?_)
    refine V_iconst C d_X12_takeBack_24 ?_
    refine V_icmp_ne (tgt := 32) C d_X12_takeBack_25 (by decide) o2 (okc rfl) h (fun h => ?_) (fun h => ?_)
    · skip
      refine V_iconst C d_X12_takeBack_28 ?_
      refine V_goto (tgt := 33) C d_X12_takeBack_29 (by decide) ?_
      exact V_iret_w C hR d_X12_takeBack_33 (okc rfl) h
    · skip
      refine V_iconst C d_X12_takeBack_32 ?_
      exact V_iret_w C hR d_X12_takeBack_33 (okc rfl) h
set_option maxHeartbeats 4000000 in
set_option maxRecDepth 100000 in
theorem ct_X12_takeBack {l : Launch} {G : GT_g} {M : Mem_m} (x0 : Nat) (x1 : Int) (o_x1 : ok_i x1) {z : (Mem_m × Int)} (h : f_X12_takeBack G.2.2.2 M x0 x1 = some z) : MI_ l yX12_takeBack K_X12_takeBack (some .int) G M [.ref (G.1 + x0), iv_i x1] z.1 z.2 :=
  met_of (by decide +kernel) rfl (Nat.le_of_ble_eq_true rfl) (fun X hl C hR => by subst hl; exact t_X12_takeBack C hR x0 x1 o_x1 h)
theorem d_X12_leaned_0 : decode cX12_leaned 0 = .ok (.aload_n 0, 1) := by decide +kernel
theorem d_X12_leaned_1 : decode cX12_leaned 1 = .ok (.iload_n 1, 1) := by decide +kernel
theorem d_X12_leaned_2 : decode cX12_leaned 2 = .ok (.invokevirtual 93, 3) := by decide +kernel
theorem d_X12_leaned_5 : decode cX12_leaned 5 = .ok (.ifCond .ne 5, 3) := by decide +kernel
theorem d_X12_leaned_8 : decode cX12_leaned 8 = .ok (.iconst (-1), 1) := by decide +kernel
theorem d_X12_leaned_9 : decode cX12_leaned 9 = .ok (.ireturn, 1) := by decide +kernel
theorem d_X12_leaned_10 : decode cX12_leaned 10 = .ok (.aload_n 0, 1) := by decide +kernel
theorem d_X12_leaned_11 : decode cX12_leaned 11 = .ok (.iload_n 1, 1) := by decide +kernel
theorem d_X12_leaned_12 : decode cX12_leaned 12 = .ok (.invokevirtual 111, 3) := by decide +kernel
theorem d_X12_leaned_15 : decode cX12_leaned 15 = .ok (.ifCond .ne 5, 3) := by decide +kernel
theorem d_X12_leaned_18 : decode cX12_leaned 18 = .ok (.iconst 0, 1) := by decide +kernel
theorem d_X12_leaned_19 : decode cX12_leaned 19 = .ok (.ireturn, 1) := by decide +kernel
theorem d_X12_leaned_20 : decode cX12_leaned 20 = .ok (.aload_n 0, 1) := by decide +kernel
theorem d_X12_leaned_21 : decode cX12_leaned 21 = .ok (.iload_n 1, 1) := by decide +kernel
theorem d_X12_leaned_22 : decode cX12_leaned 22 = .ok (.invokevirtual 156, 3) := by decide +kernel
theorem d_X12_leaned_25 : decode cX12_leaned 25 = .ok (.ldc_w 294, 3) := by decide +kernel
theorem d_X12_leaned_28 : decode cX12_leaned 28 = .ok (.iand, 1) := by decide +kernel
theorem d_X12_leaned_29 : decode cX12_leaned 29 = .ok (.istore_n 2, 1) := by decide +kernel
theorem d_X12_leaned_30 : decode cX12_leaned 30 = .ok (.iconst 0, 1) := by decide +kernel
theorem d_X12_leaned_31 : decode cX12_leaned 31 = .ok (.istore_n 3, 1) := by decide +kernel
theorem d_X12_leaned_32 : decode cX12_leaned 32 = .ok (.iload_n 3, 1) := by decide +kernel
theorem d_X12_leaned_33 : decode cX12_leaned 33 = .ok (.aload_n 0, 1) := by decide +kernel
theorem d_X12_leaned_34 : decode cX12_leaned 34 = .ok (.getfield 9, 3) := by decide +kernel
theorem d_X12_leaned_37 : decode cX12_leaned 37 = .ok (.sipush 1062, 3) := by decide +kernel
theorem d_X12_leaned_40 : decode cX12_leaned 40 = .ok (.iaload, 1) := by decide +kernel
theorem d_X12_leaned_41 : decode cX12_leaned 41 = .ok (.if_icmp .ge 32, 3) := by decide +kernel
theorem d_X12_leaned_44 : decode cX12_leaned 44 = .ok (.iload_n 3, 1) := by decide +kernel
theorem d_X12_leaned_45 : decode cX12_leaned 45 = .ok (.iload_n 1, 1) := by decide +kernel
theorem d_X12_leaned_46 : decode cX12_leaned 46 = .ok (.if_icmp .eq 21, 3) := by decide +kernel
theorem d_X12_leaned_49 : decode cX12_leaned 49 = .ok (.aload_n 0, 1) := by decide +kernel
theorem d_X12_leaned_50 : decode cX12_leaned 50 = .ok (.iload_n 3, 1) := by decide +kernel
theorem d_X12_leaned_51 : decode cX12_leaned 51 = .ok (.invokevirtual 111, 3) := by decide +kernel
theorem d_X12_leaned_54 : decode cX12_leaned 54 = .ok (.ifCond .eq 13, 3) := by decide +kernel
theorem d_X12_leaned_57 : decode cX12_leaned 57 = .ok (.iload_n 2, 1) := by decide +kernel
theorem d_X12_leaned_58 : decode cX12_leaned 58 = .ok (.aload_n 0, 1) := by decide +kernel
theorem d_X12_leaned_59 : decode cX12_leaned 59 = .ok (.iload_n 3, 1) := by decide +kernel
theorem d_X12_leaned_60 : decode cX12_leaned 60 = .ok (.invokevirtual 156, 3) := by decide +kernel
theorem d_X12_leaned_63 : decode cX12_leaned 63 = .ok (.iconst (-1), 1) := by decide +kernel
theorem d_X12_leaned_64 : decode cX12_leaned 64 = .ok (.ixor, 1) := by decide +kernel
theorem d_X12_leaned_65 : decode cX12_leaned 65 = .ok (.iand, 1) := by decide +kernel
theorem d_X12_leaned_66 : decode cX12_leaned 66 = .ok (.istore_n 2, 1) := by decide +kernel
theorem d_X12_leaned_67 : decode cX12_leaned 67 = .ok (.iinc 3 1, 3) := by decide +kernel
theorem d_X12_leaned_70 : decode cX12_leaned 70 = .ok (.goto (-38), 3) := by decide +kernel
theorem d_X12_leaned_73 : decode cX12_leaned 73 = .ok (.iload_n 2, 1) := by decide +kernel
theorem d_X12_leaned_74 : decode cX12_leaned 74 = .ok (.ireturn, 1) := by decide +kernel
set_option maxHeartbeats 4000000 in
set_option maxRecDepth 100000 in
theorem t_X12_leaned_32 {X : XT_x} {G : GT_g} {z : (Mem_m × Int)} (C : Cx_ (K_X12_leaned) X G) (hR : Rx_ X G (some .int)) (x0 : Nat) (x1 : Int) (o_x1 : ok_i x1) : ∀ (n : Nat) (M : Mem_m) (x2 : Int) (x3 : Int) (o_x2 : ok_i x2) (o_x3 : ok_i x3), f_X12_leaned_32 G.2.2.2 x0 x1 n M x2 x3 = some z → V_ (K_X12_leaned) X G (Fq_ X G (Qi_ G z.1 z.2)) M 32 [(0, .ref (G.1 + x0)), (1, iv_i x1), (2, iv_i x2), (3, iv_i x3)] [] := by
  intro n
  induction n with
  | zero => intro M x2 x3 o_x2 o_x3 h; exact absurd h (by simp [f_X12_leaned_32])
  | succ n ih =>
    intro M x2 x3 o_x2 o_x3 h
    unfold f_X12_leaned_32 at h
    refine V_iload_n (j := 3) C d_X12_leaned_32 rfl rfl ?_
    refine V_aload_n (j := 0) C d_X12_leaned_33 rfl rfl ?_
    refine V_getR C ck_12 fw_X12_9 d_X12_leaned_34 h (fun v1 h => ?_)
    refine V_sipush (v := 1062) C d_X12_leaned_37 rfl ?_
    refine V_iald C d_X12_leaned_40 (okc rfl) h (fun v2 o2 h => ?_)
    refine V_icmp_ge (tgt := 73) C d_X12_leaned_41 (by decide) o_x3 o2 h (fun h => ?_) (fun h => ?_)
    · skip
      refine V_iload_n (j := 3) C d_X12_leaned_44 rfl rfl ?_
      refine V_iload_n (j := 1) C d_X12_leaned_45 rfl rfl ?_
      refine V_icmp_eq (tgt := 67) C d_X12_leaned_46 (by decide) o_x3 o_x1 h (fun h => ?_) (fun h => ?_)
      · skip
        refine V_iinc (j := 3) (lv' := [(3, iv_i (wr_i (x3 + 1))), (0, .ref (G.1 + x0)), (1, iv_i x1), (2, iv_i x2)]) C d_X12_leaned_67 rfl (by decide) rfl ?_
        refine V_goto (tgt := 32) C d_X12_leaned_70 (by decide) ?_
        refine V_lv [1, 2, 3, 0] rfl (ih M x2 (wr_i (x3 + 1)) o_x2 (ok_wr _) h)
      · skip
        refine V_aload_n (j := 0) C d_X12_leaned_49 rfl rfl ?_
        refine V_iload_n (j := 3) C d_X12_leaned_50 rfl rfl ?_
        refine V_callVri (K' := K_X12_counts) (a := x0) (ci := 12) (av := [iv_i x3]) (rest := []) yi_X12_counts (by decide) rfl C (yk_X12_counts) l1_X12_111 (by decide) d_X12_leaned_51 (fun v hv => ct_X12_counts x0 x3 o_x3 hv) rfl rfl (Nat.le_of_ble_eq_true rfl) h (fun v3 o3 h => ?_)
        refine V_if_eq (tgt := 67) C d_X12_leaned_54 (by decide) o3 h (fun h => ?_) (fun h => ?_)
        · skip
          refine V_iinc (j := 3) (lv' := [(3, iv_i (wr_i (x3 + 1))), (0, .ref (G.1 + x0)), (1, iv_i x1), (2, iv_i x2)]) C d_X12_leaned_67 rfl (by decide) rfl ?_
          refine V_goto (tgt := 32) C d_X12_leaned_70 (by decide) ?_
          refine V_lv [1, 2, 3, 0] rfl (ih M x2 (wr_i (x3 + 1)) o_x2 (ok_wr _) h)
        · skip
          refine V_iload_n (j := 2) C d_X12_leaned_57 rfl rfl ?_
          refine V_aload_n (j := 0) C d_X12_leaned_58 rfl rfl ?_
          refine V_iload_n (j := 3) C d_X12_leaned_59 rfl rfl ?_
          refine V_callVwi (K' := K_X12_notesOf) (a := x0) (ci := 12) (av := [iv_i x3]) (rest := [iv_i x2]) yi_X12_notesOf (by decide) rfl C (yk_X12_notesOf) l1_X12_156 (by decide) d_X12_leaned_60 (fun v hv => ct_X12_notesOf x0 x3 o_x3 hv) rfl rfl (Nat.le_of_ble_eq_true rfl) h (fun z4 o4 h => ?_)
          refine V_iconst C d_X12_leaned_63 ?_
          refine V_ixor C d_X12_leaned_64 ?_
          refine V_iand C d_X12_leaned_65 ?_
          refine V_istore_n (lv' := [(2, iv_i (an_i x2 (xo_i z4.2 (-1)))), (0, .ref (G.1 + x0)), (1, iv_i x1), (3, iv_i x3)]) C d_X12_leaned_66 rfl (by decide) rfl ?_
          refine V_iinc (j := 3) (lv' := [(3, iv_i (wr_i (x3 + 1))), (2, iv_i (an_i x2 (xo_i z4.2 (-1)))), (0, .ref (G.1 + x0)), (1, iv_i x1)]) C d_X12_leaned_67 rfl (by decide) rfl ?_
          refine V_goto (tgt := 32) C d_X12_leaned_70 (by decide) ?_
          refine V_lv [2, 3, 1, 0] rfl (ih z4.1 (an_i x2 (xo_i z4.2 (-1))) (wr_i (x3 + 1)) (ok_I _) (ok_wr _) h)
    · skip
      refine V_iload_n (j := 2) C d_X12_leaned_73 rfl rfl ?_
      exact V_iret_w C hR d_X12_leaned_74 o_x2 h
set_option maxHeartbeats 4000000 in
set_option maxRecDepth 100000 in
theorem t_X12_leaned {X : XT_x} {G : GT_g} {M : Mem_m} {z : (Mem_m × Int)} (C : Cx_ (K_X12_leaned) X G) (hR : Rx_ X G (some .int)) (x0 : Nat) (x1 : Int) (o_x1 : ok_i x1) (h : f_X12_leaned G.2.2.2 M x0 x1 = some z) : V_ (K_X12_leaned) X G (Fq_ X G (Qi_ G z.1 z.2)) M 0 [(0, .ref (G.1 + x0)), (1, iv_i x1)] [] := by
  unfold f_X12_leaned at h
  refine V_aload_n (j := 0) C d_X12_leaned_0 rfl rfl ?_
  refine V_iload_n (j := 1) C d_X12_leaned_1 rfl rfl ?_
  refine V_callVri (K' := K_X12_isCard) (a := x0) (ci := 12) (av := [iv_i x1]) (rest := []) yi_X12_isCard (by decide) rfl C (yk_X12_isCard) l1_X12_93 (by decide) d_X12_leaned_2 (fun v hv => ct_X12_isCard x0 x1 o_x1 hv) rfl rfl (Nat.le_of_ble_eq_true rfl) h (fun v1 o1 h => ?_)
  refine V_if_ne (tgt := 10) C d_X12_leaned_5 (by decide) o1 h (fun h => ?_) (fun h => ?_)
  · skip
    refine V_iconst C d_X12_leaned_8 ?_
    exact V_iret_w C hR d_X12_leaned_9 (okc rfl) h
  · skip
    refine V_aload_n (j := 0) C d_X12_leaned_10 rfl rfl ?_
    refine V_iload_n (j := 1) C d_X12_leaned_11 rfl rfl ?_
    refine V_callVri (K' := K_X12_counts) (a := x0) (ci := 12) (av := [iv_i x1]) (rest := []) yi_X12_counts (by decide) rfl C (yk_X12_counts) l1_X12_111 (by decide) d_X12_leaned_12 (fun v hv => ct_X12_counts x0 x1 o_x1 hv) rfl rfl (Nat.le_of_ble_eq_true rfl) h (fun v2 o2 h => ?_)
    refine V_if_ne (tgt := 20) C d_X12_leaned_15 (by decide) o2 h (fun h => ?_) (fun h => ?_)
    · skip
      refine V_iconst C d_X12_leaned_18 ?_
      exact V_iret_w C hR d_X12_leaned_19 (okc rfl) h
    · skip
      refine V_aload_n (j := 0) C d_X12_leaned_20 rfl rfl ?_
      refine V_iload_n (j := 1) C d_X12_leaned_21 rfl rfl ?_
      refine V_callVwi (K' := K_X12_notesOf) (a := x0) (ci := 12) (av := [iv_i x1]) (rest := []) yi_X12_notesOf (by decide) rfl C (yk_X12_notesOf) l1_X12_156 (by decide) d_X12_leaned_22 (fun v hv => ct_X12_notesOf x0 x1 o_x1 hv) rfl rfl (Nat.le_of_ble_eq_true rfl) h (fun z3 o3 h => ?_)
      refine V_ldcw (v := 65535) C d_X12_leaned_25 cn_X12_294 ?_
      refine V_iand C d_X12_leaned_28 ?_
      refine V_istore_n (lv' := [(2, iv_i (an_i z3.2 65535)), (0, .ref (G.1 + x0)), (1, iv_i x1)]) C d_X12_leaned_29 rfl (by decide) rfl ?_
      refine V_iconst C d_X12_leaned_30 ?_
      refine V_istore_n (lv' := [(3, iv_i 0), (2, iv_i (an_i z3.2 65535)), (0, .ref (G.1 + x0)), (1, iv_i x1)]) C d_X12_leaned_31 rfl (by decide) rfl ?_
      refine V_lv [2, 3, 1, 0] rfl (t_X12_leaned_32 C hR x0 x1 o_x1 FU_ z3.1 (an_i z3.2 65535) 0 (ok_I _) (okc rfl) h)
set_option maxHeartbeats 4000000 in
set_option maxRecDepth 100000 in
theorem ct_X12_leaned {l : Launch} {G : GT_g} {M : Mem_m} (x0 : Nat) (x1 : Int) (o_x1 : ok_i x1) {z : (Mem_m × Int)} (h : f_X12_leaned G.2.2.2 M x0 x1 = some z) : MI_ l yX12_leaned K_X12_leaned (some .int) G M [.ref (G.1 + x0), iv_i x1] z.1 z.2 :=
  met_of (by decide +kernel) rfl (Nat.le_of_ble_eq_true rfl) (fun X hl C hR => by subst hl; exact t_X12_leaned C hR x0 x1 o_x1 h)
theorem d_X12_isAlike_0 : decode cX12_isAlike 0 = .ok (.aload_n 0, 1) := by decide +kernel
theorem d_X12_isAlike_1 : decode cX12_isAlike 1 = .ok (.iload_n 1, 1) := by decide +kernel
theorem d_X12_isAlike_2 : decode cX12_isAlike 2 = .ok (.iconst 0, 1) := by decide +kernel
theorem d_X12_isAlike_3 : decode cX12_isAlike 3 = .ok (.invokevirtual 98, 3) := by decide +kernel
theorem d_X12_isAlike_6 : decode cX12_isAlike 6 = .ok (.aload_n 0, 1) := by decide +kernel
theorem d_X12_isAlike_7 : decode cX12_isAlike 7 = .ok (.iload_n 2, 1) := by decide +kernel
theorem d_X12_isAlike_8 : decode cX12_isAlike 8 = .ok (.iconst 0, 1) := by decide +kernel
theorem d_X12_isAlike_9 : decode cX12_isAlike 9 = .ok (.invokevirtual 98, 3) := by decide +kernel
theorem d_X12_isAlike_12 : decode cX12_isAlike 12 = .ok (.if_icmp .ne 16, 3) := by decide +kernel
theorem d_X12_isAlike_15 : decode cX12_isAlike 15 = .ok (.aload_n 0, 1) := by decide +kernel
theorem d_X12_isAlike_16 : decode cX12_isAlike 16 = .ok (.iload_n 1, 1) := by decide +kernel
theorem d_X12_isAlike_17 : decode cX12_isAlike 17 = .ok (.iload_n 2, 1) := by decide +kernel
theorem d_X12_isAlike_18 : decode cX12_isAlike 18 = .ok (.invokevirtual 114, 3) := by decide +kernel
theorem d_X12_isAlike_21 : decode cX12_isAlike 21 = .ok (.ifCond .ne 7, 3) := by decide +kernel
theorem d_X12_isAlike_24 : decode cX12_isAlike 24 = .ok (.iconst 1, 1) := by decide +kernel
theorem d_X12_isAlike_25 : decode cX12_isAlike 25 = .ok (.goto 4, 3) := by decide +kernel
theorem d_X12_isAlike_28 : decode cX12_isAlike 28 = .ok (.iconst 0, 1) := by decide +kernel
theorem d_X12_isAlike_29 : decode cX12_isAlike 29 = .ok (.ireturn, 1) := by decide +kernel
set_option maxHeartbeats 4000000 in
set_option maxRecDepth 100000 in
theorem t_X12_isAlike {X : XT_x} {G : GT_g} {M : Mem_m} {z : (Mem_m × Int)} (C : Cx_ (K_X12_isAlike) X G) (hR : Rx_ X G (some .boolean)) (x0 : Nat) (x1 : Int) (x2 : Int) (o_x1 : ok_i x1) (o_x2 : ok_i x2) (h : f_X12_isAlike G.2.2.2 M x0 x1 x2 = some z) : V_ (K_X12_isAlike) X G (Fq_ X G (Qi_ G z.1 z.2)) M 0 [(0, .ref (G.1 + x0)), (1, iv_i x1), (2, iv_i x2)] [] := by
  unfold f_X12_isAlike at h
  refine V_aload_n (j := 0) C d_X12_isAlike_0 rfl rfl ?_
  refine V_iload_n (j := 1) C d_X12_isAlike_1 rfl rfl ?_
  refine V_iconst C d_X12_isAlike_2 ?_
  refine V_callVri (K' := K_X12_of) (a := x0) (ci := 12) (av := [iv_i x1, iv_i 0]) (rest := []) yi_X12_of (by decide) rfl C (yk_X12_of) l1_X12_98 (by decide) d_X12_isAlike_3 (fun v hv => ct_X12_of x0 x1 0 o_x1 (okc rfl) hv) rfl rfl (Nat.le_of_ble_eq_true rfl) h (fun v1 o1 h => ?_)
  refine V_aload_n (j := 0) C d_X12_isAlike_6 rfl rfl ?_
  refine V_iload_n (j := 2) C d_X12_isAlike_7 rfl rfl ?_
  refine V_iconst C d_X12_isAlike_8 ?_
  refine V_callVri (K' := K_X12_of) (a := x0) (ci := 12) (av := [iv_i x2, iv_i 0]) (rest := [iv_i v1]) yi_X12_of (by decide) rfl C (yk_X12_of) l1_X12_98 (by decide) d_X12_isAlike_9 (fun v hv => ct_X12_of x0 x2 0 o_x2 (okc rfl) hv) rfl rfl (Nat.le_of_ble_eq_true rfl) h (fun v2 o2 h => ?_)
  refine V_icmp_ne (tgt := 28) C d_X12_isAlike_12 (by decide) o1 o2 h (fun h => ?_) (fun h => ?_)
  · skip
    refine V_aload_n (j := 0) C d_X12_isAlike_15 rfl rfl ?_
    refine V_iload_n (j := 1) C d_X12_isAlike_16 rfl rfl ?_
    refine V_iload_n (j := 2) C d_X12_isAlike_17 rfl rfl ?_
    refine V_callVwi (K' := K_X12_others) (a := x0) (ci := 12) (av := [iv_i x1, iv_i x2]) (rest := []) yi_X12_others (by decide) rfl C (yk_X12_others) l1_X12_114 (by decide) d_X12_isAlike_18 (fun v hv => ct_X12_others x0 x1 x2 o_x1 o_x2 hv) rfl rfl (Nat.le_of_ble_eq_true rfl) h (fun z3 o3 h => ?_)
    refine V_if_ne (tgt := 28) C d_X12_isAlike_21 (by decide) o3 h (fun h => ?_) (fun h => ?_)
    · skip
      refine V_iconst C d_X12_isAlike_24 ?_
      refine V_goto (tgt := 29) C d_X12_isAlike_25 (by decide) ?_
      exact V_zret_w C hR d_X12_isAlike_29 (Or.inr rfl) h
    · skip
      refine V_iconst C d_X12_isAlike_28 ?_
      exact V_zret_w C hR d_X12_isAlike_29 (Or.inl rfl) h
  · skip
    refine V_iconst C d_X12_isAlike_28 ?_
    exact V_zret_w C hR d_X12_isAlike_29 (Or.inl rfl) h
set_option maxHeartbeats 4000000 in
set_option maxRecDepth 100000 in
theorem ct_X12_isAlike {l : Launch} {G : GT_g} {M : Mem_m} (x0 : Nat) (x1 : Int) (x2 : Int) (o_x1 : ok_i x1) (o_x2 : ok_i x2) {z : (Mem_m × Int)} (h : f_X12_isAlike G.2.2.2 M x0 x1 x2 = some z) : MI_ l yX12_isAlike K_X12_isAlike (some .boolean) G M [.ref (G.1 + x0), iv_i x1, iv_i x2] z.1 z.2 :=
  met_of (by decide +kernel) rfl (Nat.le_of_ble_eq_true rfl) (fun X hl C hR => by subst hl; exact t_X12_isAlike C hR x0 x1 x2 o_x1 o_x2 h)
theorem d_X12_weight_0 : decode cX12_weight 0 = .ok (.iload_n 1, 1) := by decide +kernel
theorem d_X12_weight_1 : decode cX12_weight 1 = .ok (.i2l, 1) := by decide +kernel
theorem d_X12_weight_2 : decode cX12_weight 2 = .ok (.lconst 0, 1) := by decide +kernel
theorem d_X12_weight_3 : decode cX12_weight 3 = .ok (.ldc2_w 101, 3) := by decide +kernel
theorem d_X12_weight_6 : decode cX12_weight 6 = .ok (.invokestatic 69, 3) := by decide +kernel
theorem d_X12_weight_9 : decode cX12_weight 9 = .ok (.ifCond .eq 13, 3) := by decide +kernel
theorem d_X12_weight_12 : decode cX12_weight 12 = .ok (.iload_n 2, 1) := by decide +kernel
theorem d_X12_weight_13 : decode cX12_weight 13 = .ok (.i2l, 1) := by decide +kernel
theorem d_X12_weight_14 : decode cX12_weight 14 = .ok (.lconst 0, 1) := by decide +kernel
theorem d_X12_weight_15 : decode cX12_weight 15 = .ok (.lconst 1, 1) := by decide +kernel
theorem d_X12_weight_16 : decode cX12_weight 16 = .ok (.invokestatic 69, 3) := by decide +kernel
theorem d_X12_weight_19 : decode cX12_weight 19 = .ok (.ifCond .ne 5, 3) := by decide +kernel
theorem d_X12_weight_22 : decode cX12_weight 22 = .ok (.iconst (-1), 1) := by decide +kernel
theorem d_X12_weight_23 : decode cX12_weight 23 = .ok (.ireturn, 1) := by decide +kernel
theorem d_X12_weight_24 : decode cX12_weight 24 = .ok (.iconst 0, 1) := by decide +kernel
theorem d_X12_weight_25 : decode cX12_weight 25 = .ok (.istore_n 3, 1) := by decide +kernel
theorem d_X12_weight_26 : decode cX12_weight 26 = .ok (.iconst 0, 1) := by decide +kernel
theorem d_X12_weight_27 : decode cX12_weight 27 = .ok (.istore 4, 2) := by decide +kernel
theorem d_X12_weight_29 : decode cX12_weight 29 = .ok (.iload 4, 2) := by decide +kernel
theorem d_X12_weight_31 : decode cX12_weight 31 = .ok (.aload_n 0, 1) := by decide +kernel
theorem d_X12_weight_32 : decode cX12_weight 32 = .ok (.getfield 9, 3) := by decide +kernel
theorem d_X12_weight_35 : decode cX12_weight 35 = .ok (.sipush 1062, 3) := by decide +kernel
theorem d_X12_weight_38 : decode cX12_weight 38 = .ok (.iaload, 1) := by decide +kernel
theorem d_X12_weight_39 : decode cX12_weight 39 = .ok (.if_icmp .ge 151, 3) := by decide +kernel
theorem d_X12_weight_42 : decode cX12_weight 42 = .ok (.iconst 0, 1) := by decide +kernel
theorem d_X12_weight_43 : decode cX12_weight 43 = .ok (.istore 5, 2) := by decide +kernel
theorem d_X12_weight_45 : decode cX12_weight 45 = .ok (.iload 5, 2) := by decide +kernel
theorem d_X12_weight_47 : decode cX12_weight 47 = .ok (.aload_n 0, 1) := by decide +kernel
theorem d_X12_weight_48 : decode cX12_weight 48 = .ok (.getfield 9, 3) := by decide +kernel
theorem d_X12_weight_51 : decode cX12_weight 51 = .ok (.sipush 1062, 3) := by decide +kernel
theorem d_X12_weight_54 : decode cX12_weight 54 = .ok (.iaload, 1) := by decide +kernel
theorem d_X12_weight_55 : decode cX12_weight 55 = .ok (.if_icmp .ge 129, 3) := by decide +kernel
theorem d_X12_weight_58 : decode cX12_weight 58 = .ok (.aload_n 0, 1) := by decide +kernel
theorem d_X12_weight_59 : decode cX12_weight 59 = .ok (.iload 4, 2) := by decide +kernel
theorem d_X12_weight_61 : decode cX12_weight 61 = .ok (.bipush 14, 2) := by decide +kernel
theorem d_X12_weight_63 : decode cX12_weight 63 = .ok (.invokevirtual 98, 3) := by decide +kernel
theorem d_X12_weight_66 : decode cX12_weight 66 = .ok (.ifCond .ne 80, 3) := by decide +kernel
theorem d_X12_weight_69 : decode cX12_weight 69 = .ok (.aload_n 0, 1) := by decide +kernel
theorem d_X12_weight_70 : decode cX12_weight 70 = .ok (.iload 5, 2) := by decide +kernel
theorem d_X12_weight_72 : decode cX12_weight 72 = .ok (.bipush 14, 2) := by decide +kernel
theorem d_X12_weight_74 : decode cX12_weight 74 = .ok (.invokevirtual 98, 3) := by decide +kernel
theorem d_X12_weight_77 : decode cX12_weight 77 = .ok (.ifCond .ne 69, 3) := by decide +kernel
theorem d_X12_weight_80 : decode cX12_weight 80 = .ok (.aload_n 0, 1) := by decide +kernel
theorem d_X12_weight_81 : decode cX12_weight 81 = .ok (.iload 4, 2) := by decide +kernel
theorem d_X12_weight_83 : decode cX12_weight 83 = .ok (.bipush 11, 2) := by decide +kernel
theorem d_X12_weight_85 : decode cX12_weight 85 = .ok (.invokevirtual 98, 3) := by decide +kernel
theorem d_X12_weight_88 : decode cX12_weight 88 = .ok (.iload_n 1, 1) := by decide +kernel
theorem d_X12_weight_89 : decode cX12_weight 89 = .ok (.if_icmp .ne 57, 3) := by decide +kernel
theorem d_X12_weight_92 : decode cX12_weight 92 = .ok (.aload_n 0, 1) := by decide +kernel
theorem d_X12_weight_93 : decode cX12_weight 93 = .ok (.iload 5, 2) := by decide +kernel
theorem d_X12_weight_95 : decode cX12_weight 95 = .ok (.bipush 11, 2) := by decide +kernel
theorem d_X12_weight_97 : decode cX12_weight 97 = .ok (.invokevirtual 98, 3) := by decide +kernel
theorem d_X12_weight_100 : decode cX12_weight 100 = .ok (.iload_n 1, 1) := by decide +kernel
theorem d_X12_weight_101 : decode cX12_weight 101 = .ok (.if_icmp .eq 45, 3) := by decide +kernel
theorem d_X12_weight_104 : decode cX12_weight 104 = .ok (.aload_n 0, 1) := by decide +kernel
theorem d_X12_weight_105 : decode cX12_weight 105 = .ok (.iload 4, 2) := by decide +kernel
theorem d_X12_weight_107 : decode cX12_weight 107 = .ok (.bipush 10, 2) := by decide +kernel
theorem d_X12_weight_109 : decode cX12_weight 109 = .ok (.invokevirtual 98, 3) := by decide +kernel
theorem d_X12_weight_112 : decode cX12_weight 112 = .ok (.aload_n 0, 1) := by decide +kernel
theorem d_X12_weight_113 : decode cX12_weight 113 = .ok (.iload 5, 2) := by decide +kernel
theorem d_X12_weight_115 : decode cX12_weight 115 = .ok (.bipush 10, 2) := by decide +kernel
theorem d_X12_weight_117 : decode cX12_weight 117 = .ok (.invokevirtual 98, 3) := by decide +kernel
theorem d_X12_weight_120 : decode cX12_weight 120 = .ok (.if_icmp .ne 26, 3) := by decide +kernel
theorem d_X12_weight_123 : decode cX12_weight 123 = .ok (.aload_n 0, 1) := by decide +kernel
theorem d_X12_weight_124 : decode cX12_weight 124 = .ok (.iload 4, 2) := by decide +kernel
theorem d_X12_weight_126 : decode cX12_weight 126 = .ok (.bipush 12, 2) := by decide +kernel
theorem d_X12_weight_128 : decode cX12_weight 128 = .ok (.invokevirtual 98, 3) := by decide +kernel
theorem d_X12_weight_131 : decode cX12_weight 131 = .ok (.aload_n 0, 1) := by decide +kernel
theorem d_X12_weight_132 : decode cX12_weight 132 = .ok (.iload 5, 2) := by decide +kernel
theorem d_X12_weight_134 : decode cX12_weight 134 = .ok (.bipush 12, 2) := by decide +kernel
theorem d_X12_weight_136 : decode cX12_weight 136 = .ok (.invokevirtual 98, 3) := by decide +kernel
theorem d_X12_weight_139 : decode cX12_weight 139 = .ok (.if_icmp .ne 7, 3) := by decide +kernel
theorem d_X12_weight_142 : decode cX12_weight 142 = .ok (.iconst 1, 1) := by decide +kernel
theorem d_X12_weight_143 : decode cX12_weight 143 = .ok (.goto 4, 3) := by decide +kernel
theorem d_X12_weight_146 : decode cX12_weight 146 = .ok (.iconst 0, 1) := by decide +kernel
theorem d_X12_weight_147 : decode cX12_weight 147 = .ok (.istore 6, 2) := by decide +kernel
theorem d_X12_weight_149 : decode cX12_weight 149 = .ok (.iload_n 3, 1) := by decide +kernel
theorem d_X12_weight_150 : decode cX12_weight 150 = .ok (.iload 6, 2) := by decide +kernel
theorem d_X12_weight_152 : decode cX12_weight 152 = .ok (.ifCond .eq 23, 3) := by decide +kernel
theorem d_X12_weight_155 : decode cX12_weight 155 = .ok (.iload_n 2, 1) := by decide +kernel
theorem d_X12_weight_156 : decode cX12_weight 156 = .ok (.iconst 1, 1) := by decide +kernel
theorem d_X12_weight_157 : decode cX12_weight 157 = .ok (.if_icmp .eq 14, 3) := by decide +kernel
theorem d_X12_weight_160 : decode cX12_weight 160 = .ok (.aload_n 0, 1) := by decide +kernel
theorem d_X12_weight_161 : decode cX12_weight 161 = .ok (.iload 4, 2) := by decide +kernel
theorem d_X12_weight_163 : decode cX12_weight 163 = .ok (.iload 5, 2) := by decide +kernel
theorem d_X12_weight_165 : decode cX12_weight 165 = .ok (.invokevirtual 295, 3) := by decide +kernel
theorem d_X12_weight_168 : decode cX12_weight 168 = .ok (.ifCond .eq 7, 3) := by decide +kernel
theorem d_X12_weight_171 : decode cX12_weight 171 = .ok (.iconst 1, 1) := by decide +kernel
theorem d_X12_weight_172 : decode cX12_weight 172 = .ok (.goto 4, 3) := by decide +kernel
theorem d_X12_weight_175 : decode cX12_weight 175 = .ok (.iconst 0, 1) := by decide +kernel
theorem d_X12_weight_176 : decode cX12_weight 176 = .ok (.iadd, 1) := by decide +kernel
theorem d_X12_weight_177 : decode cX12_weight 177 = .ok (.istore_n 3, 1) := by decide +kernel
theorem d_X12_weight_178 : decode cX12_weight 178 = .ok (.iinc 5 1, 3) := by decide +kernel
theorem d_X12_weight_181 : decode cX12_weight 181 = .ok (.goto (-136), 3) := by decide +kernel
theorem d_X12_weight_184 : decode cX12_weight 184 = .ok (.iinc 4 1, 3) := by decide +kernel
theorem d_X12_weight_187 : decode cX12_weight 187 = .ok (.goto (-158), 3) := by decide +kernel
theorem d_X12_weight_190 : decode cX12_weight 190 = .ok (.iload_n 3, 1) := by decide +kernel
theorem d_X12_weight_191 : decode cX12_weight 191 = .ok (.ireturn, 1) := by decide +kernel
set_option maxHeartbeats 4000000 in
set_option maxRecDepth 100000 in
theorem t_X12_weight_147 {X : XT_x} {G : GT_g} {z : (Mem_m × Int)} (C : Cx_ (K_X12_weight) X G) (hR : Rx_ X G (some .int)) (M : Mem_m) (x0 : Nat) (x1 : Int) (x2 : Int) (x3 : Int) (x4 : Int) (x5 : Int) (s0 : Int) (o_x1 : ok_i x1) (o_x2 : ok_i x2) (o_x3 : ok_i x3) (o_x4 : ok_i x4) (o_x5 : ok_i x5) (o_s0 : ok_i s0) (k_29 : Mem_m → Int → Int → Option (Mem_m × Int)) (hk_29 : ∀ (M : Mem_m) (x3 : Int) (x4 : Int) (o_x3 : ok_i x3) (o_x4 : ok_i x4), k_29 M x3 x4 = some z → V_ (K_X12_weight) X G (Fq_ X G (Qi_ G z.1 z.2)) M 29 [(0, .ref (G.1 + x0)), (1, iv_i x1), (2, iv_i x2), (3, iv_i x3), (4, iv_i x4)] []) (k_45 : Mem_m → Int → Int → Option (Mem_m × Int)) (hk_45 : ∀ (M : Mem_m) (x3 : Int) (x5 : Int) (o_x3 : ok_i x3) (o_x5 : ok_i x5), k_45 M x3 x5 = some z → V_ (K_X12_weight) X G (Fq_ X G (Qi_ G z.1 z.2)) M 45 [(0, .ref (G.1 + x0)), (1, iv_i x1), (2, iv_i x2), (3, iv_i x3), (4, iv_i x4), (5, iv_i x5)] []) (h : f_X12_weight_147 G.2.2.2 k_29 k_45 M x0 x1 x2 x3 x4 x5 s0 = some z) : V_ (K_X12_weight) X G (Fq_ X G (Qi_ G z.1 z.2)) M 147 [(0, .ref (G.1 + x0)), (1, iv_i x1), (2, iv_i x2), (3, iv_i x3), (4, iv_i x4), (5, iv_i x5)] [iv_i s0] := by
  unfold f_X12_weight_147 at h
  refine V_istore (lv' := [(6, iv_i s0), (0, .ref (G.1 + x0)), (1, iv_i x1), (2, iv_i x2), (3, iv_i x3), (4, iv_i x4), (5, iv_i x5)]) C d_X12_weight_147 (by decide) rfl ?_
  refine V_iload_n (j := 4) C d_X12_weight_149 rfl rfl ?_
  refine V_iload (j := 0) C d_X12_weight_150 rfl ?_
  refine V_if_eq (tgt := 175) C d_X12_weight_152 (by decide) o_s0 h (fun h => ?_) (fun h => ?_)
  · skip
    refine V_iconst C d_X12_weight_175 ?_
    refine V_iadd C d_X12_weight_176 ?_
    refine V_istore_n (lv' := [(3, iv_i (wr_i (x3 + 0))), (6, iv_i s0), (0, .ref (G.1 + x0)), (1, iv_i x1), (2, iv_i x2), (4, iv_i x4), (5, iv_i x5)]) C d_X12_weight_177 rfl (by decide) rfl ?_
    refine V_iinc (j := 6) (lv' := [(5, iv_i (wr_i (x5 + 1))), (3, iv_i (wr_i (x3 + 0))), (6, iv_i s0), (0, .ref (G.1 + x0)), (1, iv_i x1), (2, iv_i x2), (4, iv_i x4)]) C d_X12_weight_178 rfl (by decide) rfl ?_
    refine V_goto (tgt := 45) C d_X12_weight_181 (by decide) ?_
    refine V_lv [3, 4, 5, 1, 6, 0] rfl (hk_45 M (wr_i (x3 + 0)) (wr_i (x5 + 1)) (ok_wr _) (ok_wr _) h)
  · skip
    refine V_iload_n (j := 3) C d_X12_weight_155 rfl rfl ?_
    refine V_iconst C d_X12_weight_156 ?_
    refine V_icmp_eq (tgt := 171) C d_X12_weight_157 (by decide) o_x2 (okc rfl) h (fun h => ?_) (fun h => ?_)
    · skip
      refine V_iconst C d_X12_weight_171 ?_
      refine V_goto (tgt := 176) C d_X12_weight_172 (by decide) ?_
      refine V_iadd C d_X12_weight_176 ?_
      refine V_istore_n (lv' := [(3, iv_i (wr_i (x3 + 1))), (6, iv_i s0), (0, .ref (G.1 + x0)), (1, iv_i x1), (2, iv_i x2), (4, iv_i x4), (5, iv_i x5)]) C d_X12_weight_177 rfl (by decide) rfl ?_
      refine V_iinc (j := 6) (lv' := [(5, iv_i (wr_i (x5 + 1))), (3, iv_i (wr_i (x3 + 1))), (6, iv_i s0), (0, .ref (G.1 + x0)), (1, iv_i x1), (2, iv_i x2), (4, iv_i x4)]) C d_X12_weight_178 rfl (by decide) rfl ?_
      refine V_goto (tgt := 45) C d_X12_weight_181 (by decide) ?_
      refine V_lv [3, 4, 5, 1, 6, 0] rfl (hk_45 M (wr_i (x3 + 1)) (wr_i (x5 + 1)) (ok_wr _) (ok_wr _) h)
    · skip
      refine V_aload_n (j := 1) C d_X12_weight_160 rfl rfl ?_
      refine V_iload (j := 5) C d_X12_weight_161 rfl ?_
      refine V_iload (j := 6) C d_X12_weight_163 rfl ?_
      refine V_callVwi (K' := K_X12_isAlike) (a := x0) (ci := 12) (av := [iv_i x4, iv_i x5]) (rest := [iv_i x3]) yi_X12_isAlike (by decide) rfl C (yk_X12_isAlike) l1_X12_295 (by decide) d_X12_weight_165 (fun v hv => ct_X12_isAlike x0 x4 x5 o_x4 o_x5 hv) rfl rfl (Nat.le_of_ble_eq_true rfl) h (fun z1 o1 h => ?_)
      refine V_if_eq (tgt := 175) C d_X12_weight_168 (by decide) o1 h (fun h => ?_) (fun h => ?_)
      · skip
        refine V_iconst C d_X12_weight_175 ?_
        refine V_iadd C d_X12_weight_176 ?_
        refine V_istore_n (lv' := [(3, iv_i (wr_i (x3 + 0))), (6, iv_i s0), (0, .ref (G.1 + x0)), (1, iv_i x1), (2, iv_i x2), (4, iv_i x4), (5, iv_i x5)]) C d_X12_weight_177 rfl (by decide) rfl ?_
        refine V_iinc (j := 6) (lv' := [(5, iv_i (wr_i (x5 + 1))), (3, iv_i (wr_i (x3 + 0))), (6, iv_i s0), (0, .ref (G.1 + x0)), (1, iv_i x1), (2, iv_i x2), (4, iv_i x4)]) C d_X12_weight_178 rfl (by decide) rfl ?_
        refine V_goto (tgt := 45) C d_X12_weight_181 (by decide) ?_
        refine V_lv [3, 4, 5, 1, 6, 0] rfl (hk_45 z1.1 (wr_i (x3 + 0)) (wr_i (x5 + 1)) (ok_wr _) (ok_wr _) h)
      · skip
        refine V_iconst C d_X12_weight_171 ?_
        refine V_goto (tgt := 176) C d_X12_weight_172 (by decide) ?_
        refine V_iadd C d_X12_weight_176 ?_
        refine V_istore_n (lv' := [(3, iv_i (wr_i (x3 + 1))), (6, iv_i s0), (0, .ref (G.1 + x0)), (1, iv_i x1), (2, iv_i x2), (4, iv_i x4), (5, iv_i x5)]) C d_X12_weight_177 rfl (by decide) rfl ?_
        refine V_iinc (j := 6) (lv' := [(5, iv_i (wr_i (x5 + 1))), (3, iv_i (wr_i (x3 + 1))), (6, iv_i s0), (0, .ref (G.1 + x0)), (1, iv_i x1), (2, iv_i x2), (4, iv_i x4)]) C d_X12_weight_178 rfl (by decide) rfl ?_
        refine V_goto (tgt := 45) C d_X12_weight_181 (by decide) ?_
        refine V_lv [3, 4, 5, 1, 6, 0] rfl (hk_45 z1.1 (wr_i (x3 + 1)) (wr_i (x5 + 1)) (ok_wr _) (ok_wr _) h)
set_option maxHeartbeats 4000000 in
set_option maxRecDepth 100000 in
theorem t_X12_weight_146 {X : XT_x} {G : GT_g} {z : (Mem_m × Int)} (C : Cx_ (K_X12_weight) X G) (hR : Rx_ X G (some .int)) (M : Mem_m) (x0 : Nat) (x1 : Int) (x2 : Int) (x3 : Int) (x4 : Int) (x5 : Int) (o_x1 : ok_i x1) (o_x2 : ok_i x2) (o_x3 : ok_i x3) (o_x4 : ok_i x4) (o_x5 : ok_i x5) (k_29 : Mem_m → Int → Int → Option (Mem_m × Int)) (hk_29 : ∀ (M : Mem_m) (x3 : Int) (x4 : Int) (o_x3 : ok_i x3) (o_x4 : ok_i x4), k_29 M x3 x4 = some z → V_ (K_X12_weight) X G (Fq_ X G (Qi_ G z.1 z.2)) M 29 [(0, .ref (G.1 + x0)), (1, iv_i x1), (2, iv_i x2), (3, iv_i x3), (4, iv_i x4)] []) (k_45 : Mem_m → Int → Int → Option (Mem_m × Int)) (hk_45 : ∀ (M : Mem_m) (x3 : Int) (x5 : Int) (o_x3 : ok_i x3) (o_x5 : ok_i x5), k_45 M x3 x5 = some z → V_ (K_X12_weight) X G (Fq_ X G (Qi_ G z.1 z.2)) M 45 [(0, .ref (G.1 + x0)), (1, iv_i x1), (2, iv_i x2), (3, iv_i x3), (4, iv_i x4), (5, iv_i x5)] []) (h : f_X12_weight_146 G.2.2.2 k_29 k_45 M x0 x1 x2 x3 x4 x5 = some z) : V_ (K_X12_weight) X G (Fq_ X G (Qi_ G z.1 z.2)) M 146 [(0, .ref (G.1 + x0)), (1, iv_i x1), (2, iv_i x2), (3, iv_i x3), (4, iv_i x4), (5, iv_i x5)] [] := by
  unfold f_X12_weight_146 at h
  refine V_iconst C d_X12_weight_146 ?_
  refine V_lv [0, 1, 2, 3, 4, 5] rfl (t_X12_weight_147 C hR M x0 x1 x2 x3 x4 x5 0 o_x1 o_x2 o_x3 o_x4 o_x5 (okc rfl) k_29 hk_29 k_45 hk_45 h)
set_option maxHeartbeats 4000000 in
set_option maxRecDepth 100000 in
theorem t_X12_weight_45 {X : XT_x} {G : GT_g} {z : (Mem_m × Int)} (C : Cx_ (K_X12_weight) X G) (hR : Rx_ X G (some .int)) (x0 : Nat) (x1 : Int) (x2 : Int) (x4 : Int) (o_x1 : ok_i x1) (o_x2 : ok_i x2) (o_x4 : ok_i x4) (k_29 : Mem_m → Int → Int → Option (Mem_m × Int)) (hk_29 : ∀ (M : Mem_m) (x3 : Int) (x4 : Int) (o_x3 : ok_i x3) (o_x4 : ok_i x4), k_29 M x3 x4 = some z → V_ (K_X12_weight) X G (Fq_ X G (Qi_ G z.1 z.2)) M 29 [(0, .ref (G.1 + x0)), (1, iv_i x1), (2, iv_i x2), (3, iv_i x3), (4, iv_i x4)] []) : ∀ (n : Nat) (M : Mem_m) (x3 : Int) (x5 : Int) (o_x3 : ok_i x3) (o_x5 : ok_i x5), f_X12_weight_45 G.2.2.2 k_29 x0 x1 x2 x4 n M x3 x5 = some z → V_ (K_X12_weight) X G (Fq_ X G (Qi_ G z.1 z.2)) M 45 [(0, .ref (G.1 + x0)), (1, iv_i x1), (2, iv_i x2), (3, iv_i x3), (4, iv_i x4), (5, iv_i x5)] [] := by
  intro n
  induction n with
  | zero => intro M x3 x5 o_x3 o_x5 h; exact absurd h (by simp [f_X12_weight_45])
  | succ n ih =>
    intro M x3 x5 o_x3 o_x5 h
    unfold f_X12_weight_45 at h
    refine V_iload (j := 5) C d_X12_weight_45 rfl ?_
    refine V_aload_n (j := 0) C d_X12_weight_47 rfl rfl ?_
    refine V_getR C ck_12 fw_X12_9 d_X12_weight_48 h (fun v1 h => ?_)
    refine V_sipush (v := 1062) C d_X12_weight_51 rfl ?_
    refine V_iald C d_X12_weight_54 (okc rfl) h (fun v2 o2 h => ?_)
    refine V_icmp_ge (tgt := 184) C d_X12_weight_55 (by decide) o_x5 o2 h (fun h => ?_) (fun h => ?_)
    · skip
      refine V_aload_n (j := 0) C d_X12_weight_58 rfl rfl ?_
      refine V_iload (j := 4) C d_X12_weight_59 rfl ?_
      refine V_bipush (v := 14) C d_X12_weight_61 rfl ?_
      refine V_callVri (K' := K_X12_of) (a := x0) (ci := 12) (av := [iv_i x4, iv_i 14]) (rest := []) yi_X12_of (by decide) rfl C (yk_X12_of) l1_X12_98 (by decide) d_X12_weight_63 (fun v hv => ct_X12_of x0 x4 14 o_x4 (okc rfl) hv) rfl rfl (Nat.le_of_ble_eq_true rfl) h (fun v3 o3 h => ?_)
      refine V_if_ne (tgt := 146) C d_X12_weight_66 (by decide) o3 h (fun h => ?_) (fun h => ?_)
      · skip
        refine V_aload_n (j := 0) C d_X12_weight_69 rfl rfl ?_
        refine V_iload (j := 5) C d_X12_weight_70 rfl ?_
        refine V_bipush (v := 14) C d_X12_weight_72 rfl ?_
        refine V_callVri (K' := K_X12_of) (a := x0) (ci := 12) (av := [iv_i x5, iv_i 14]) (rest := []) yi_X12_of (by decide) rfl C (yk_X12_of) l1_X12_98 (by decide) d_X12_weight_74 (fun v hv => ct_X12_of x0 x5 14 o_x5 (okc rfl) hv) rfl rfl (Nat.le_of_ble_eq_true rfl) h (fun v4 o4 h => ?_)
        refine V_if_ne (tgt := 146) C d_X12_weight_77 (by decide) o4 h (fun h => ?_) (fun h => ?_)
        · skip
          refine V_aload_n (j := 0) C d_X12_weight_80 rfl rfl ?_
          refine V_iload (j := 4) C d_X12_weight_81 rfl ?_
          refine V_bipush (v := 11) C d_X12_weight_83 rfl ?_
          refine V_callVri (K' := K_X12_of) (a := x0) (ci := 12) (av := [iv_i x4, iv_i 11]) (rest := []) yi_X12_of (by decide) rfl C (yk_X12_of) l1_X12_98 (by decide) d_X12_weight_85 (fun v hv => ct_X12_of x0 x4 11 o_x4 (okc rfl) hv) rfl rfl (Nat.le_of_ble_eq_true rfl) h (fun v5 o5 h => ?_)
          refine V_iload_n (j := 1) C d_X12_weight_88 rfl rfl ?_
          refine V_icmp_ne (tgt := 146) C d_X12_weight_89 (by decide) o5 o_x1 h (fun h => ?_) (fun h => ?_)
          · skip
            refine V_aload_n (j := 0) C d_X12_weight_92 rfl rfl ?_
            refine V_iload (j := 5) C d_X12_weight_93 rfl ?_
            refine V_bipush (v := 11) C d_X12_weight_95 rfl ?_
            refine V_callVri (K' := K_X12_of) (a := x0) (ci := 12) (av := [iv_i x5, iv_i 11]) (rest := []) yi_X12_of (by decide) rfl C (yk_X12_of) l1_X12_98 (by decide) d_X12_weight_97 (fun v hv => ct_X12_of x0 x5 11 o_x5 (okc rfl) hv) rfl rfl (Nat.le_of_ble_eq_true rfl) h (fun v6 o6 h => ?_)
            refine V_iload_n (j := 1) C d_X12_weight_100 rfl rfl ?_
            refine V_icmp_eq (tgt := 146) C d_X12_weight_101 (by decide) o6 o_x1 h (fun h => ?_) (fun h => ?_)
            · skip
              refine V_lv [0, 1, 2, 3, 4, 5] rfl (t_X12_weight_146 C hR M x0 x1 x2 x3 x4 x5 o_x1 o_x2 o_x3 o_x4 o_x5 k_29 hk_29 (fun M x3 x5 => f_X12_weight_45 G.2.2.2 k_29 x0 x1 x2 x4 n M x3 x5) (fun M x3 x5 o_x3 o_x5 h9 => ih M x3 x5 o_x3 o_x5 h9) h)
            · skip
              refine V_aload_n (j := 0) C d_X12_weight_104 rfl rfl ?_
              refine V_iload (j := 4) C d_X12_weight_105 rfl ?_
              refine V_bipush (v := 10) C d_X12_weight_107 rfl ?_
              refine V_callVri (K' := K_X12_of) (a := x0) (ci := 12) (av := [iv_i x4, iv_i 10]) (rest := []) yi_X12_of (by decide) rfl C (yk_X12_of) l1_X12_98 (by decide) d_X12_weight_109 (fun v hv => ct_X12_of x0 x4 10 o_x4 (okc rfl) hv) rfl rfl (Nat.le_of_ble_eq_true rfl) h (fun v7 o7 h => ?_)
              refine V_aload_n (j := 0) C d_X12_weight_112 rfl rfl ?_
              refine V_iload (j := 5) C d_X12_weight_113 rfl ?_
              refine V_bipush (v := 10) C d_X12_weight_115 rfl ?_
              refine V_callVri (K' := K_X12_of) (a := x0) (ci := 12) (av := [iv_i x5, iv_i 10]) (rest := [iv_i v7]) yi_X12_of (by decide) rfl C (yk_X12_of) l1_X12_98 (by decide) d_X12_weight_117 (fun v hv => ct_X12_of x0 x5 10 o_x5 (okc rfl) hv) rfl rfl (Nat.le_of_ble_eq_true rfl) h (fun v8 o8 h => ?_)
              refine V_icmp_ne (tgt := 146) C d_X12_weight_120 (by decide) o7 o8 h (fun h => ?_) (fun h => ?_)
              · skip
                refine V_aload_n (j := 0) C d_X12_weight_123 rfl rfl ?_
                refine V_iload (j := 4) C d_X12_weight_124 rfl ?_
                refine V_bipush (v := 12) C d_X12_weight_126 rfl ?_
                refine V_callVri (K' := K_X12_of) (a := x0) (ci := 12) (av := [iv_i x4, iv_i 12]) (rest := []) yi_X12_of (by decide) rfl C (yk_X12_of) l1_X12_98 (by decide) d_X12_weight_128 (fun v hv => ct_X12_of x0 x4 12 o_x4 (okc rfl) hv) rfl rfl (Nat.le_of_ble_eq_true rfl) h (fun v9 o9 h => ?_)
                refine V_aload_n (j := 0) C d_X12_weight_131 rfl rfl ?_
                refine V_iload (j := 5) C d_X12_weight_132 rfl ?_
                refine V_bipush (v := 12) C d_X12_weight_134 rfl ?_
                refine V_callVri (K' := K_X12_of) (a := x0) (ci := 12) (av := [iv_i x5, iv_i 12]) (rest := [iv_i v9]) yi_X12_of (by decide) rfl C (yk_X12_of) l1_X12_98 (by decide) d_X12_weight_136 (fun v hv => ct_X12_of x0 x5 12 o_x5 (okc rfl) hv) rfl rfl (Nat.le_of_ble_eq_true rfl) h (fun v10 o10 h => ?_)
                refine V_icmp_ne (tgt := 146) C d_X12_weight_139 (by decide) o9 o10 h (fun h => ?_) (fun h => ?_)
                · skip
                  refine V_iconst C d_X12_weight_142 ?_
                  refine V_goto (tgt := 147) C d_X12_weight_143 (by decide) ?_
                  refine V_lv [0, 1, 2, 3, 4, 5] rfl (t_X12_weight_147 C hR M x0 x1 x2 x3 x4 x5 1 o_x1 o_x2 o_x3 o_x4 o_x5 (okc rfl) k_29 hk_29 (fun M x3 x5 => f_X12_weight_45 G.2.2.2 k_29 x0 x1 x2 x4 n M x3 x5) (fun M x3 x5 o_x3 o_x5 h9 => ih M x3 x5 o_x3 o_x5 h9) h)
                · skip
                  refine V_lv [0, 1, 2, 3, 4, 5] rfl (t_X12_weight_146 C hR M x0 x1 x2 x3 x4 x5 o_x1 o_x2 o_x3 o_x4 o_x5 k_29 hk_29 (fun M x3 x5 => f_X12_weight_45 G.2.2.2 k_29 x0 x1 x2 x4 n M x3 x5) (fun M x3 x5 o_x3 o_x5 h9 => ih M x3 x5 o_x3 o_x5 h9) h)
              · skip
                refine V_lv [0, 1, 2, 3, 4, 5] rfl (t_X12_weight_146 C hR M x0 x1 x2 x3 x4 x5 o_x1 o_x2 o_x3 o_x4 o_x5 k_29 hk_29 (fun M x3 x5 => f_X12_weight_45 G.2.2.2 k_29 x0 x1 x2 x4 n M x3 x5) (fun M x3 x5 o_x3 o_x5 h9 => ih M x3 x5 o_x3 o_x5 h9) h)
          · skip
            refine V_lv [0, 1, 2, 3, 4, 5] rfl (t_X12_weight_146 C hR M x0 x1 x2 x3 x4 x5 o_x1 o_x2 o_x3 o_x4 o_x5 k_29 hk_29 (fun M x3 x5 => f_X12_weight_45 G.2.2.2 k_29 x0 x1 x2 x4 n M x3 x5) (fun M x3 x5 o_x3 o_x5 h9 => ih M x3 x5 o_x3 o_x5 h9) h)
        · skip
          refine V_lv [0, 1, 2, 3, 4, 5] rfl (t_X12_weight_146 C hR M x0 x1 x2 x3 x4 x5 o_x1 o_x2 o_x3 o_x4 o_x5 k_29 hk_29 (fun M x3 x5 => f_X12_weight_45 G.2.2.2 k_29 x0 x1 x2 x4 n M x3 x5) (fun M x3 x5 o_x3 o_x5 h9 => ih M x3 x5 o_x3 o_x5 h9) h)
      · skip
        refine V_lv [0, 1, 2, 3, 4, 5] rfl (t_X12_weight_146 C hR M x0 x1 x2 x3 x4 x5 o_x1 o_x2 o_x3 o_x4 o_x5 k_29 hk_29 (fun M x3 x5 => f_X12_weight_45 G.2.2.2 k_29 x0 x1 x2 x4 n M x3 x5) (fun M x3 x5 o_x3 o_x5 h9 => ih M x3 x5 o_x3 o_x5 h9) h)
    · skip
      refine V_iinc (j := 4) (lv' := [(4, iv_i (wr_i (x4 + 1))), (0, .ref (G.1 + x0)), (1, iv_i x1), (2, iv_i x2), (3, iv_i x3), (5, iv_i x5)]) C d_X12_weight_184 rfl (by decide) rfl ?_
      refine V_goto (tgt := 29) C d_X12_weight_187 (by decide) ?_
      refine V_lv [1, 2, 3, 4, 0] rfl (hk_29 M x3 (wr_i (x4 + 1)) o_x3 (ok_wr _) h)
set_option maxHeartbeats 4000000 in
set_option maxRecDepth 100000 in
theorem t_X12_weight_29 {X : XT_x} {G : GT_g} {z : (Mem_m × Int)} (C : Cx_ (K_X12_weight) X G) (hR : Rx_ X G (some .int)) (x0 : Nat) (x1 : Int) (x2 : Int) (o_x1 : ok_i x1) (o_x2 : ok_i x2) : ∀ (n : Nat) (M : Mem_m) (x3 : Int) (x4 : Int) (o_x3 : ok_i x3) (o_x4 : ok_i x4), f_X12_weight_29 G.2.2.2 x0 x1 x2 n M x3 x4 = some z → V_ (K_X12_weight) X G (Fq_ X G (Qi_ G z.1 z.2)) M 29 [(0, .ref (G.1 + x0)), (1, iv_i x1), (2, iv_i x2), (3, iv_i x3), (4, iv_i x4)] [] := by
  intro n
  induction n with
  | zero => intro M x3 x4 o_x3 o_x4 h; exact absurd h (by simp [f_X12_weight_29])
  | succ n ih =>
    intro M x3 x4 o_x3 o_x4 h
    unfold f_X12_weight_29 at h
    refine V_iload (j := 4) C d_X12_weight_29 rfl ?_
    refine V_aload_n (j := 0) C d_X12_weight_31 rfl rfl ?_
    refine V_getR C ck_12 fw_X12_9 d_X12_weight_32 h (fun v1 h => ?_)
    refine V_sipush (v := 1062) C d_X12_weight_35 rfl ?_
    refine V_iald C d_X12_weight_38 (okc rfl) h (fun v2 o2 h => ?_)
    refine V_icmp_ge (tgt := 190) C d_X12_weight_39 (by decide) o_x4 o2 h (fun h => ?_) (fun h => ?_)
    · skip
      refine V_iconst C d_X12_weight_42 ?_
      refine V_istore (lv' := [(5, iv_i 0), (0, .ref (G.1 + x0)), (1, iv_i x1), (2, iv_i x2), (3, iv_i x3), (4, iv_i x4)]) C d_X12_weight_43 (by decide) rfl ?_
      refine V_lv [1, 2, 3, 4, 5, 0] rfl (t_X12_weight_45 C hR x0 x1 x2 x4 o_x1 o_x2 o_x4 (fun M x3 x4 => f_X12_weight_29 G.2.2.2 x0 x1 x2 n M x3 x4) (fun M x3 x4 o_x3 o_x4 h9 => ih M x3 x4 o_x3 o_x4 h9) FU_ M x3 0 o_x3 (okc rfl) h)
    · skip
      refine V_iload_n (j := 3) C d_X12_weight_190 rfl rfl ?_
      exact V_iret_w C hR d_X12_weight_191 o_x3 h
set_option maxHeartbeats 4000000 in
set_option maxRecDepth 100000 in
theorem t_X12_weight {X : XT_x} {G : GT_g} {M : Mem_m} {z : (Mem_m × Int)} (C : Cx_ (K_X12_weight) X G) (hR : Rx_ X G (some .int)) (x0 : Nat) (x1 : Int) (x2 : Int) (o_x1 : ok_i x1) (o_x2 : ok_i x2) (h : f_X12_weight G.2.2.2 M x0 x1 x2 = some z) : V_ (K_X12_weight) X G (Fq_ X G (Qi_ G z.1 z.2)) M 0 [(0, .ref (G.1 + x0)), (1, iv_i x1), (2, iv_i x2)] [] := by
  unfold f_X12_weight at h
  refine V_iload_n (j := 1) C d_X12_weight_0 rfl rfl ?_
  refine V_i2l C d_X12_weight_1 o_x1 ?_
  refine V_lconst0 C d_X12_weight_2 ?_
  refine V_ldc2 (v := 3) C d_X12_weight_3 cl_X12_101 ?_
  refine V_callSri (K' := K_X12_isIn) (av := [jv_i x1, jv_i 0, jv_i 3]) (rest := []) ys_X12_isIn C (yk_X12_isIn) l1_X12_69 (by decide) d_X12_weight_6 (fun v hv => ct_X12_isIn x1 0 3 o_x1 (okc rfl) (okc rfl) hv) rfl rfl (Nat.le_of_ble_eq_true rfl) h (fun v1 o1 h => ?_)
  refine V_if_eq (tgt := 22) C d_X12_weight_9 (by decide) o1 h (fun h => ?_) (fun h => ?_)
  · skip
    refine V_iconst C d_X12_weight_22 ?_
    exact V_iret_w C hR d_X12_weight_23 (okc rfl) h
  · skip
    refine V_iload_n (j := 2) C d_X12_weight_12 rfl rfl ?_
    refine V_i2l C d_X12_weight_13 o_x2 ?_
    refine V_lconst0 C d_X12_weight_14 ?_
    refine V_lconst1 C d_X12_weight_15 ?_
    refine V_callSri (K' := K_X12_isIn) (av := [jv_i x2, jv_i 0, jv_i 1]) (rest := []) ys_X12_isIn C (yk_X12_isIn) l1_X12_69 (by decide) d_X12_weight_16 (fun v hv => ct_X12_isIn x2 0 1 o_x2 (okc rfl) (okc rfl) hv) rfl rfl (Nat.le_of_ble_eq_true rfl) h (fun v2 o2 h => ?_)
    refine V_if_ne (tgt := 24) C d_X12_weight_19 (by decide) o2 h (fun h => ?_) (fun h => ?_)
    · skip
      refine V_iconst C d_X12_weight_22 ?_
      exact V_iret_w C hR d_X12_weight_23 (okc rfl) h
    · skip
      refine V_iconst C d_X12_weight_24 ?_
      refine V_istore_n (lv' := [(3, iv_i 0), (0, .ref (G.1 + x0)), (1, iv_i x1), (2, iv_i x2)]) C d_X12_weight_25 rfl (by decide) rfl ?_
      refine V_iconst C d_X12_weight_26 ?_
      refine V_istore (lv' := [(4, iv_i 0), (3, iv_i 0), (0, .ref (G.1 + x0)), (1, iv_i x1), (2, iv_i x2)]) C d_X12_weight_27 (by decide) rfl ?_
      refine V_lv [2, 3, 4, 1, 0] rfl (t_X12_weight_29 C hR x0 x1 x2 o_x1 o_x2 FU_ M 0 0 (okc rfl) (okc rfl) h)
set_option maxHeartbeats 4000000 in
set_option maxRecDepth 100000 in
theorem ct_X12_weight {l : Launch} {G : GT_g} {M : Mem_m} (x0 : Nat) (x1 : Int) (x2 : Int) (o_x1 : ok_i x1) (o_x2 : ok_i x2) {z : (Mem_m × Int)} (h : f_X12_weight G.2.2.2 M x0 x1 x2 = some z) : MI_ l yX12_weight K_X12_weight (some .int) G M [.ref (G.1 + x0), iv_i x1, iv_i x2] z.1 z.2 :=
  met_of (by decide +kernel) rfl (Nat.le_of_ble_eq_true rfl) (fun X hl C hR => by subst hl; exact t_X12_weight C hR x0 x1 x2 o_x1 o_x2 h)
theorem d_X12_image_0 : decode cX12_image 0 = .ok (.iconst 0, 1) := by decide +kernel
theorem d_X12_image_1 : decode cX12_image 1 = .ok (.istore_n 1, 1) := by decide +kernel
theorem d_X12_image_2 : decode cX12_image 2 = .ok (.iload_n 1, 1) := by decide +kernel
theorem d_X12_image_3 : decode cX12_image 3 = .ok (.sipush 1067, 3) := by decide +kernel
theorem d_X12_image_6 : decode cX12_image 6 = .ok (.if_icmp .ge 21, 3) := by decide +kernel
theorem d_X12_image_9 : decode cX12_image 9 = .ok (.aload_n 0, 1) := by decide +kernel
theorem d_X12_image_10 : decode cX12_image 10 = .ok (.getfield 13, 3) := by decide +kernel
theorem d_X12_image_13 : decode cX12_image 13 = .ok (.iload_n 1, 1) := by decide +kernel
theorem d_X12_image_14 : decode cX12_image 14 = .ok (.aload_n 0, 1) := by decide +kernel
theorem d_X12_image_15 : decode cX12_image 15 = .ok (.getfield 9, 3) := by decide +kernel
theorem d_X12_image_18 : decode cX12_image 18 = .ok (.iload_n 1, 1) := by decide +kernel
theorem d_X12_image_19 : decode cX12_image 19 = .ok (.iaload, 1) := by decide +kernel
theorem d_X12_image_20 : decode cX12_image 20 = .ok (.iastore, 1) := by decide +kernel
theorem d_X12_image_21 : decode cX12_image 21 = .ok (.iinc 1 1, 3) := by decide +kernel
theorem d_X12_image_24 : decode cX12_image 24 = .ok (.goto (-22), 3) := by decide +kernel
theorem d_X12_image_27 : decode cX12_image 27 = .ok (.aload_n 0, 1) := by decide +kernel
theorem d_X12_image_28 : decode cX12_image 28 = .ok (.iconst 1, 1) := by decide +kernel
theorem d_X12_image_29 : decode cX12_image 29 = .ok (.putfield 298, 3) := by decide +kernel
theorem d_X12_image_32 : decode cX12_image 32 = .ok (.aload_n 0, 1) := by decide +kernel
theorem d_X12_image_33 : decode cX12_image 33 = .ok (.getfield 9, 3) := by decide +kernel
theorem d_X12_image_36 : decode cX12_image 36 = .ok (.sipush 1062, 3) := by decide +kernel
theorem d_X12_image_39 : decode cX12_image 39 = .ok (.iaload, 1) := by decide +kernel
theorem d_X12_image_40 : decode cX12_image 40 = .ok (.ireturn, 1) := by decide +kernel
set_option maxHeartbeats 4000000 in
set_option maxRecDepth 100000 in
theorem t_X12_image_2 {X : XT_x} {G : GT_g} {z : (Mem_m × Int)} (C : Cx_ (K_X12_image) X G) (hR : Rx_ X G (some .int)) (x0 : Nat) : ∀ (n : Nat) (M : Mem_m) (x1 : Int) (o_x1 : ok_i x1), f_X12_image_2 G.2.2.2 x0 n M x1 = some z → V_ (K_X12_image) X G (Fq_ X G (Qi_ G z.1 z.2)) M 2 [(0, .ref (G.1 + x0)), (1, iv_i x1)] [] := by
  intro n
  induction n with
  | zero => intro M x1 o_x1 h; exact absurd h (by simp [f_X12_image_2])
  | succ n ih =>
    intro M x1 o_x1 h
    unfold f_X12_image_2 at h
    refine V_iload_n (j := 1) C d_X12_image_2 rfl rfl ?_
    refine V_sipush (v := 1067) C d_X12_image_3 rfl ?_
    refine V_icmp_ge (tgt := 27) C d_X12_image_6 (by decide) o_x1 (okc rfl) h (fun h => ?_) (fun h => ?_)
    · skip
      refine V_aload_n (j := 0) C d_X12_image_9 rfl rfl ?_
      refine V_getR C ck_12 fw_X12_13 d_X12_image_10 h (fun v1 h => ?_)
      refine V_iload_n (j := 1) C d_X12_image_13 rfl rfl ?_
      refine V_aload_n (j := 0) C d_X12_image_14 rfl rfl ?_
      refine V_getR C ck_12 fw_X12_9 d_X12_image_15 h (fun v2 h => ?_)
      refine V_iload_n (j := 1) C d_X12_image_18 rfl rfl ?_
      refine V_iald C d_X12_image_19 o_x1 h (fun v3 o3 h => ?_)
      refine V_iast C d_X12_image_20 o_x1 o3 h (fun M4 h => ?_)
      refine V_iinc (j := 1) (lv' := [(1, iv_i (wr_i (x1 + 1))), (0, .ref (G.1 + x0))]) C d_X12_image_21 rfl (by decide) rfl ?_
      refine V_goto (tgt := 2) C d_X12_image_24 (by decide) ?_
      refine V_lv [1, 0] rfl (ih M4 (wr_i (x1 + 1)) (ok_wr _) h)
    · skip
      refine V_aload_n (j := 0) C d_X12_image_27 rfl rfl ?_
      refine V_iconst C d_X12_image_28 ?_
      refine V_putZ C ck_12 fw_X12_298 fp_12_8 d_X12_image_29 (okc rfl) h (fun M5 h => ?_)
      refine V_aload_n (j := 0) C d_X12_image_32 rfl rfl ?_
      refine V_getR C ck_12 fw_X12_9 d_X12_image_33 h (fun v6 h => ?_)
      refine V_sipush (v := 1062) C d_X12_image_36 rfl ?_
      refine V_iald C d_X12_image_39 (okc rfl) h (fun v7 o7 h => ?_)
      exact V_iret_w C hR d_X12_image_40 o7 h
set_option maxHeartbeats 4000000 in
set_option maxRecDepth 100000 in
theorem t_X12_image {X : XT_x} {G : GT_g} {M : Mem_m} {z : (Mem_m × Int)} (C : Cx_ (K_X12_image) X G) (hR : Rx_ X G (some .int)) (x0 : Nat)  (h : f_X12_image G.2.2.2 M x0 = some z) : V_ (K_X12_image) X G (Fq_ X G (Qi_ G z.1 z.2)) M 0 [(0, .ref (G.1 + x0))] [] := by
  unfold f_X12_image at h
  refine V_iconst C d_X12_image_0 ?_
  refine V_istore_n (lv' := [(1, iv_i 0), (0, .ref (G.1 + x0))]) C d_X12_image_1 rfl (by decide) rfl ?_
  refine V_lv [1, 0] rfl (t_X12_image_2 C hR x0 FU_ M 0 (okc rfl) h)
set_option maxHeartbeats 4000000 in
set_option maxRecDepth 100000 in
theorem ct_X12_image {l : Launch} {G : GT_g} {M : Mem_m} (x0 : Nat)  {z : (Mem_m × Int)} (h : f_X12_image G.2.2.2 M x0 = some z) : MI_ l yX12_image K_X12_image (some .int) G M [.ref (G.1 + x0)] z.1 z.2 :=
  met_of (by decide +kernel) rfl (Nat.le_of_ble_eq_true rfl) (fun X hl C hR => by subst hl; exact t_X12_image C hR x0  h)
theorem d_X12_restore_0 : decode cX12_restore 0 = .ok (.aload_n 0, 1) := by decide +kernel
theorem d_X12_restore_1 : decode cX12_restore 1 = .ok (.getfield 298, 3) := by decide +kernel
theorem d_X12_restore_4 : decode cX12_restore 4 = .ok (.ifCond .ne 6, 3) := by decide +kernel
theorem d_X12_restore_7 : decode cX12_restore 7 = .ok (.bipush (-3), 2) := by decide +kernel
theorem d_X12_restore_9 : decode cX12_restore 9 = .ok (.ireturn, 1) := by decide +kernel
theorem d_X12_restore_10 : decode cX12_restore 10 = .ok (.iconst 0, 1) := by decide +kernel
theorem d_X12_restore_11 : decode cX12_restore 11 = .ok (.istore_n 1, 1) := by decide +kernel
theorem d_X12_restore_12 : decode cX12_restore 12 = .ok (.iload_n 1, 1) := by decide +kernel
theorem d_X12_restore_13 : decode cX12_restore 13 = .ok (.sipush 1067, 3) := by decide +kernel
theorem d_X12_restore_16 : decode cX12_restore 16 = .ok (.if_icmp .ge 21, 3) := by decide +kernel
theorem d_X12_restore_19 : decode cX12_restore 19 = .ok (.aload_n 0, 1) := by decide +kernel
theorem d_X12_restore_20 : decode cX12_restore 20 = .ok (.getfield 9, 3) := by decide +kernel
theorem d_X12_restore_23 : decode cX12_restore 23 = .ok (.iload_n 1, 1) := by decide +kernel
theorem d_X12_restore_24 : decode cX12_restore 24 = .ok (.aload_n 0, 1) := by decide +kernel
theorem d_X12_restore_25 : decode cX12_restore 25 = .ok (.getfield 13, 3) := by decide +kernel
theorem d_X12_restore_28 : decode cX12_restore 28 = .ok (.iload_n 1, 1) := by decide +kernel
theorem d_X12_restore_29 : decode cX12_restore 29 = .ok (.iaload, 1) := by decide +kernel
theorem d_X12_restore_30 : decode cX12_restore 30 = .ok (.iastore, 1) := by decide +kernel
theorem d_X12_restore_31 : decode cX12_restore 31 = .ok (.iinc 1 1, 3) := by decide +kernel
theorem d_X12_restore_34 : decode cX12_restore 34 = .ok (.goto (-22), 3) := by decide +kernel
theorem d_X12_restore_37 : decode cX12_restore 37 = .ok (.aload_n 0, 1) := by decide +kernel
theorem d_X12_restore_38 : decode cX12_restore 38 = .ok (.getfield 9, 3) := by decide +kernel
theorem d_X12_restore_41 : decode cX12_restore 41 = .ok (.sipush 1062, 3) := by decide +kernel
theorem d_X12_restore_44 : decode cX12_restore 44 = .ok (.iaload, 1) := by decide +kernel
theorem d_X12_restore_45 : decode cX12_restore 45 = .ok (.ireturn, 1) := by decide +kernel
set_option maxHeartbeats 4000000 in
set_option maxRecDepth 100000 in
theorem t_X12_restore_12 {X : XT_x} {G : GT_g} {z : (Mem_m × Int)} (C : Cx_ (K_X12_restore) X G) (hR : Rx_ X G (some .int)) (x0 : Nat) : ∀ (n : Nat) (M : Mem_m) (x1 : Int) (o_x1 : ok_i x1), f_X12_restore_12 G.2.2.2 x0 n M x1 = some z → V_ (K_X12_restore) X G (Fq_ X G (Qi_ G z.1 z.2)) M 12 [(0, .ref (G.1 + x0)), (1, iv_i x1)] [] := by
  intro n
  induction n with
  | zero => intro M x1 o_x1 h; exact absurd h (by simp [f_X12_restore_12])
  | succ n ih =>
    intro M x1 o_x1 h
    unfold f_X12_restore_12 at h
    refine V_iload_n (j := 1) C d_X12_restore_12 rfl rfl ?_
    refine V_sipush (v := 1067) C d_X12_restore_13 rfl ?_
    refine V_icmp_ge (tgt := 37) C d_X12_restore_16 (by decide) o_x1 (okc rfl) h (fun h => ?_) (fun h => ?_)
    · skip
      refine V_aload_n (j := 0) C d_X12_restore_19 rfl rfl ?_
      refine V_getR C ck_12 fw_X12_9 d_X12_restore_20 h (fun v1 h => ?_)
      refine V_iload_n (j := 1) C d_X12_restore_23 rfl rfl ?_
      refine V_aload_n (j := 0) C d_X12_restore_24 rfl rfl ?_
      refine V_getR C ck_12 fw_X12_13 d_X12_restore_25 h (fun v2 h => ?_)
      refine V_iload_n (j := 1) C d_X12_restore_28 rfl rfl ?_
      refine V_iald C d_X12_restore_29 o_x1 h (fun v3 o3 h => ?_)
      refine V_iast C d_X12_restore_30 o_x1 o3 h (fun M4 h => ?_)
      refine V_iinc (j := 1) (lv' := [(1, iv_i (wr_i (x1 + 1))), (0, .ref (G.1 + x0))]) C d_X12_restore_31 rfl (by decide) rfl ?_
      refine V_goto (tgt := 12) C d_X12_restore_34 (by decide) ?_
      refine V_lv [1, 0] rfl (ih M4 (wr_i (x1 + 1)) (ok_wr _) h)
    · skip
      refine V_aload_n (j := 0) C d_X12_restore_37 rfl rfl ?_
      refine V_getR C ck_12 fw_X12_9 d_X12_restore_38 h (fun v5 h => ?_)
      refine V_sipush (v := 1062) C d_X12_restore_41 rfl ?_
      refine V_iald C d_X12_restore_44 (okc rfl) h (fun v6 o6 h => ?_)
      exact V_iret_w C hR d_X12_restore_45 o6 h
set_option maxHeartbeats 4000000 in
set_option maxRecDepth 100000 in
theorem t_X12_restore {X : XT_x} {G : GT_g} {M : Mem_m} {z : (Mem_m × Int)} (C : Cx_ (K_X12_restore) X G) (hR : Rx_ X G (some .int)) (x0 : Nat)  (h : f_X12_restore G.2.2.2 M x0 = some z) : V_ (K_X12_restore) X G (Fq_ X G (Qi_ G z.1 z.2)) M 0 [(0, .ref (G.1 + x0))] [] := by
  unfold f_X12_restore at h
  refine V_aload_n (j := 0) C d_X12_restore_0 rfl rfl ?_
  refine V_getI C ck_12 fw_X12_298 d_X12_restore_1 h (fun v1 o1 h => ?_)
  refine V_if_ne (tgt := 10) C d_X12_restore_4 (by decide) o1 h (fun h => ?_) (fun h => ?_)
  · skip
    refine V_bipush (v := (-3)) C d_X12_restore_7 rfl ?_
    exact V_iret_w C hR d_X12_restore_9 (okc rfl) h
  · skip
    refine V_iconst C d_X12_restore_10 ?_
    refine V_istore_n (lv' := [(1, iv_i 0), (0, .ref (G.1 + x0))]) C d_X12_restore_11 rfl (by decide) rfl ?_
    refine V_lv [1, 0] rfl (t_X12_restore_12 C hR x0 FU_ M 0 (okc rfl) h)
set_option maxHeartbeats 4000000 in
set_option maxRecDepth 100000 in
theorem ct_X12_restore {l : Launch} {G : GT_g} {M : Mem_m} (x0 : Nat)  {z : (Mem_m × Int)} (h : f_X12_restore G.2.2.2 M x0 = some z) : MI_ l yX12_restore K_X12_restore (some .int) G M [.ref (G.1 + x0)] z.1 z.2 :=
  met_of (by decide +kernel) rfl (Nat.le_of_ble_eq_true rfl) (fun X hl C hR => by subst hl; exact t_X12_restore C hR x0  h)
theorem d_X12_count_0 : decode cX12_count 0 = .ok (.iconst 0, 1) := by decide +kernel
theorem d_X12_count_1 : decode cX12_count 1 = .ok (.istore_n 2, 1) := by decide +kernel
theorem d_X12_count_2 : decode cX12_count 2 = .ok (.iload_n 1, 1) := by decide +kernel
theorem d_X12_count_3 : decode cX12_count 3 = .ok (.tableswitch 211 0 7 #[45, 54, 94, 103, 135, 144, 153, 162], 45) := by decide +kernel
theorem d_X12_count_48 : decode cX12_count 48 = .ok (.aload_n 0, 1) := by decide +kernel
theorem d_X12_count_49 : decode cX12_count 49 = .ok (.getfield 9, 3) := by decide +kernel
theorem d_X12_count_52 : decode cX12_count 52 = .ok (.sipush 1062, 3) := by decide +kernel
theorem d_X12_count_55 : decode cX12_count 55 = .ok (.iaload, 1) := by decide +kernel
theorem d_X12_count_56 : decode cX12_count 56 = .ok (.ireturn, 1) := by decide +kernel
theorem d_X12_count_57 : decode cX12_count 57 = .ok (.iconst 0, 1) := by decide +kernel
theorem d_X12_count_58 : decode cX12_count 58 = .ok (.istore_n 3, 1) := by decide +kernel
theorem d_X12_count_59 : decode cX12_count 59 = .ok (.iload_n 3, 1) := by decide +kernel
theorem d_X12_count_60 : decode cX12_count 60 = .ok (.aload_n 0, 1) := by decide +kernel
theorem d_X12_count_61 : decode cX12_count 61 = .ok (.getfield 9, 3) := by decide +kernel
theorem d_X12_count_64 : decode cX12_count 64 = .ok (.sipush 1062, 3) := by decide +kernel
theorem d_X12_count_67 : decode cX12_count 67 = .ok (.iaload, 1) := by decide +kernel
theorem d_X12_count_68 : decode cX12_count 68 = .ok (.if_icmp .ge 27, 3) := by decide +kernel
theorem d_X12_count_71 : decode cX12_count 71 = .ok (.iload_n 2, 1) := by decide +kernel
theorem d_X12_count_72 : decode cX12_count 72 = .ok (.aload_n 0, 1) := by decide +kernel
theorem d_X12_count_73 : decode cX12_count 73 = .ok (.iload_n 3, 1) := by decide +kernel
theorem d_X12_count_74 : decode cX12_count 74 = .ok (.bipush 14, 2) := by decide +kernel
theorem d_X12_count_76 : decode cX12_count 76 = .ok (.invokevirtual 98, 3) := by decide +kernel
theorem d_X12_count_79 : decode cX12_count 79 = .ok (.ifCond .ne 7, 3) := by decide +kernel
theorem d_X12_count_82 : decode cX12_count 82 = .ok (.iconst 1, 1) := by decide +kernel
theorem d_X12_count_83 : decode cX12_count 83 = .ok (.goto 4, 3) := by decide +kernel
theorem d_X12_count_86 : decode cX12_count 86 = .ok (.iconst 0, 1) := by decide +kernel
theorem d_X12_count_87 : decode cX12_count 87 = .ok (.iadd, 1) := by decide +kernel
theorem d_X12_count_88 : decode cX12_count 88 = .ok (.istore_n 2, 1) := by decide +kernel
theorem d_X12_count_89 : decode cX12_count 89 = .ok (.iinc 3 1, 3) := by decide +kernel
theorem d_X12_count_92 : decode cX12_count 92 = .ok (.goto (-33), 3) := by decide +kernel
theorem d_X12_count_95 : decode cX12_count 95 = .ok (.iload_n 2, 1) := by decide +kernel
theorem d_X12_count_96 : decode cX12_count 96 = .ok (.ireturn, 1) := by decide +kernel
theorem d_X12_count_97 : decode cX12_count 97 = .ok (.aload_n 0, 1) := by decide +kernel
theorem d_X12_count_98 : decode cX12_count 98 = .ok (.getfield 9, 3) := by decide +kernel
theorem d_X12_count_101 : decode cX12_count 101 = .ok (.sipush 1063, 3) := by decide +kernel
theorem d_X12_count_104 : decode cX12_count 104 = .ok (.iaload, 1) := by decide +kernel
theorem d_X12_count_105 : decode cX12_count 105 = .ok (.ireturn, 1) := by decide +kernel
theorem d_X12_count_106 : decode cX12_count 106 = .ok (.iconst 0, 1) := by decide +kernel
theorem d_X12_count_107 : decode cX12_count 107 = .ok (.istore_n 3, 1) := by decide +kernel
theorem d_X12_count_108 : decode cX12_count 108 = .ok (.iload_n 3, 1) := by decide +kernel
theorem d_X12_count_109 : decode cX12_count 109 = .ok (.aload_n 0, 1) := by decide +kernel
theorem d_X12_count_110 : decode cX12_count 110 = .ok (.getfield 9, 3) := by decide +kernel
theorem d_X12_count_113 : decode cX12_count 113 = .ok (.sipush 1063, 3) := by decide +kernel
theorem d_X12_count_116 : decode cX12_count 116 = .ok (.iaload, 1) := by decide +kernel
theorem d_X12_count_117 : decode cX12_count 117 = .ok (.if_icmp .ge 19, 3) := by decide +kernel
theorem d_X12_count_120 : decode cX12_count 120 = .ok (.iload_n 2, 1) := by decide +kernel
theorem d_X12_count_121 : decode cX12_count 121 = .ok (.aload_n 0, 1) := by decide +kernel
theorem d_X12_count_122 : decode cX12_count 122 = .ok (.iload_n 3, 1) := by decide +kernel
theorem d_X12_count_123 : decode cX12_count 123 = .ok (.bipush 6, 2) := by decide +kernel
theorem d_X12_count_125 : decode cX12_count 125 = .ok (.invokevirtual 133, 3) := by decide +kernel
theorem d_X12_count_128 : decode cX12_count 128 = .ok (.iadd, 1) := by decide +kernel
theorem d_X12_count_129 : decode cX12_count 129 = .ok (.istore_n 2, 1) := by decide +kernel
theorem d_X12_count_130 : decode cX12_count 130 = .ok (.iinc 3 1, 3) := by decide +kernel
theorem d_X12_count_133 : decode cX12_count 133 = .ok (.goto (-25), 3) := by decide +kernel
theorem d_X12_count_136 : decode cX12_count 136 = .ok (.iload_n 2, 1) := by decide +kernel
theorem d_X12_count_137 : decode cX12_count 137 = .ok (.ireturn, 1) := by decide +kernel
theorem d_X12_count_138 : decode cX12_count 138 = .ok (.aload_n 0, 1) := by decide +kernel
theorem d_X12_count_139 : decode cX12_count 139 = .ok (.getfield 9, 3) := by decide +kernel
theorem d_X12_count_142 : decode cX12_count 142 = .ok (.sipush 1064, 3) := by decide +kernel
theorem d_X12_count_145 : decode cX12_count 145 = .ok (.iaload, 1) := by decide +kernel
theorem d_X12_count_146 : decode cX12_count 146 = .ok (.ireturn, 1) := by decide +kernel
theorem d_X12_count_147 : decode cX12_count 147 = .ok (.aload_n 0, 1) := by decide +kernel
theorem d_X12_count_148 : decode cX12_count 148 = .ok (.getfield 9, 3) := by decide +kernel
theorem d_X12_count_151 : decode cX12_count 151 = .ok (.sipush 1065, 3) := by decide +kernel
theorem d_X12_count_154 : decode cX12_count 154 = .ok (.iaload, 1) := by decide +kernel
theorem d_X12_count_155 : decode cX12_count 155 = .ok (.ireturn, 1) := by decide +kernel
theorem d_X12_count_156 : decode cX12_count 156 = .ok (.aload_n 0, 1) := by decide +kernel
theorem d_X12_count_157 : decode cX12_count 157 = .ok (.getfield 9, 3) := by decide +kernel
theorem d_X12_count_160 : decode cX12_count 160 = .ok (.sipush 1066, 3) := by decide +kernel
theorem d_X12_count_163 : decode cX12_count 163 = .ok (.iaload, 1) := by decide +kernel
theorem d_X12_count_164 : decode cX12_count 164 = .ok (.ireturn, 1) := by decide +kernel
theorem d_X12_count_165 : decode cX12_count 165 = .ok (.iconst 0, 1) := by decide +kernel
theorem d_X12_count_166 : decode cX12_count 166 = .ok (.istore_n 3, 1) := by decide +kernel
theorem d_X12_count_167 : decode cX12_count 167 = .ok (.iload_n 3, 1) := by decide +kernel
theorem d_X12_count_168 : decode cX12_count 168 = .ok (.aload_n 0, 1) := by decide +kernel
theorem d_X12_count_169 : decode cX12_count 169 = .ok (.getfield 9, 3) := by decide +kernel
theorem d_X12_count_172 : decode cX12_count 172 = .ok (.sipush 1062, 3) := by decide +kernel
theorem d_X12_count_175 : decode cX12_count 175 = .ok (.iaload, 1) := by decide +kernel
theorem d_X12_count_176 : decode cX12_count 176 = .ok (.if_icmp .ge 36, 3) := by decide +kernel
theorem d_X12_count_179 : decode cX12_count 179 = .ok (.iload_n 2, 1) := by decide +kernel
theorem d_X12_count_180 : decode cX12_count 180 = .ok (.aload_n 0, 1) := by decide +kernel
theorem d_X12_count_181 : decode cX12_count 181 = .ok (.iload_n 3, 1) := by decide +kernel
theorem d_X12_count_182 : decode cX12_count 182 = .ok (.invokevirtual 111, 3) := by decide +kernel
theorem d_X12_count_185 : decode cX12_count 185 = .ok (.ifCond .eq 18, 3) := by decide +kernel
theorem d_X12_count_188 : decode cX12_count 188 = .ok (.aload_n 0, 1) := by decide +kernel
theorem d_X12_count_189 : decode cX12_count 189 = .ok (.iload_n 3, 1) := by decide +kernel
theorem d_X12_count_190 : decode cX12_count 190 = .ok (.invokevirtual 156, 3) := by decide +kernel
theorem d_X12_count_193 : decode cX12_count 193 = .ok (.ldc_w 265, 3) := by decide +kernel
theorem d_X12_count_196 : decode cX12_count 196 = .ok (.if_icmp .lt 7, 3) := by decide +kernel
theorem d_X12_count_199 : decode cX12_count 199 = .ok (.iconst 1, 1) := by decide +kernel
theorem d_X12_count_200 : decode cX12_count 200 = .ok (.goto 4, 3) := by decide +kernel
theorem d_X12_count_203 : decode cX12_count 203 = .ok (.iconst 0, 1) := by decide +kernel
theorem d_X12_count_204 : decode cX12_count 204 = .ok (.iadd, 1) := by decide +kernel
theorem d_X12_count_205 : decode cX12_count 205 = .ok (.istore_n 2, 1) := by decide +kernel
theorem d_X12_count_206 : decode cX12_count 206 = .ok (.iinc 3 1, 3) := by decide +kernel
theorem d_X12_count_209 : decode cX12_count 209 = .ok (.goto (-42), 3) := by decide +kernel
theorem d_X12_count_212 : decode cX12_count 212 = .ok (.iload_n 2, 1) := by decide +kernel
theorem d_X12_count_213 : decode cX12_count 213 = .ok (.ireturn, 1) := by decide +kernel
theorem d_X12_count_214 : decode cX12_count 214 = .ok (.iconst (-1), 1) := by decide +kernel
theorem d_X12_count_215 : decode cX12_count 215 = .ok (.ireturn, 1) := by decide +kernel
set_option maxHeartbeats 4000000 in
set_option maxRecDepth 100000 in
theorem t_X12_count_59 {X : XT_x} {G : GT_g} {z : (Mem_m × Int)} (C : Cx_ (K_X12_count) X G) (hR : Rx_ X G (some .int)) (M : Mem_m) (x0 : Nat) : ∀ (n : Nat) (x2 : Int) (x3 : Int) (o_x2 : ok_i x2) (o_x3 : ok_i x3), f_X12_count_59 G.2.2.2 M x0 n x2 x3 = some z → V_ (K_X12_count) X G (Fq_ X G (Qi_ G z.1 z.2)) M 59 [(0, .ref (G.1 + x0)), (2, iv_i x2), (3, iv_i x3)] [] := by
  intro n
  induction n with
  | zero => intro x2 x3 o_x2 o_x3 h; exact absurd h (by simp [f_X12_count_59])
  | succ n ih =>
    intro x2 x3 o_x2 o_x3 h
    unfold f_X12_count_59 at h
    refine V_iload_n (j := 2) C d_X12_count_59 rfl rfl ?_
    refine V_aload_n (j := 0) C d_X12_count_60 rfl rfl ?_
    refine V_getR C ck_12 fw_X12_9 d_X12_count_61 h (fun v1 h => ?_)
    refine V_sipush (v := 1062) C d_X12_count_64 rfl ?_
    refine V_iald C d_X12_count_67 (okc rfl) h (fun v2 o2 h => ?_)
    refine V_icmp_ge (tgt := 95) C d_X12_count_68 (by decide) o_x3 o2 h (fun h => ?_) (fun h => ?_)
    · skip
      refine V_iload_n (j := 1) C d_X12_count_71 rfl rfl ?_
      refine V_aload_n (j := 0) C d_X12_count_72 rfl rfl ?_
      refine V_iload_n (j := 2) C d_X12_count_73 rfl rfl ?_
      refine V_bipush (v := 14) C d_X12_count_74 rfl ?_
      refine V_callVri (K' := K_X12_of) (a := x0) (ci := 12) (av := [iv_i x3, iv_i 14]) (rest := [iv_i x2]) yi_X12_of (by decide) rfl C (yk_X12_of) l1_X12_98 (by decide) d_X12_count_76 (fun v hv => ct_X12_of x0 x3 14 o_x3 (okc rfl) hv) rfl rfl (Nat.le_of_ble_eq_true rfl) h (fun v3 o3 h => ?_)
      refine V_if_ne (tgt := 86) C d_X12_count_79 (by decide) o3 h (fun h => ?_) (fun h => ?_)
      · skip
        refine V_iconst C d_X12_count_82 ?_
        refine V_goto (tgt := 87) C d_X12_count_83 (by decide) ?_
        refine V_iadd C d_X12_count_87 ?_
        refine V_istore_n (lv' := [(2, iv_i (wr_i (x2 + 1))), (0, .ref (G.1 + x0)), (3, iv_i x3)]) C d_X12_count_88 rfl (by decide) rfl ?_
        refine V_iinc (j := 2) (lv' := [(3, iv_i (wr_i (x3 + 1))), (2, iv_i (wr_i (x2 + 1))), (0, .ref (G.1 + x0))]) C d_X12_count_89 rfl (by decide) rfl ?_
        refine V_goto (tgt := 59) C d_X12_count_92 (by decide) ?_
        refine V_lv [2, 1, 0] rfl (ih (wr_i (x2 + 1)) (wr_i (x3 + 1)) (ok_wr _) (ok_wr _) h)
      · skip
        refine V_iconst C d_X12_count_86 ?_
        refine V_iadd C d_X12_count_87 ?_
        refine V_istore_n (lv' := [(2, iv_i (wr_i (x2 + 0))), (0, .ref (G.1 + x0)), (3, iv_i x3)]) C d_X12_count_88 rfl (by decide) rfl ?_
        refine V_iinc (j := 2) (lv' := [(3, iv_i (wr_i (x3 + 1))), (2, iv_i (wr_i (x2 + 0))), (0, .ref (G.1 + x0))]) C d_X12_count_89 rfl (by decide) rfl ?_
        refine V_goto (tgt := 59) C d_X12_count_92 (by decide) ?_
        refine V_lv [2, 1, 0] rfl (ih (wr_i (x2 + 0)) (wr_i (x3 + 1)) (ok_wr _) (ok_wr _) h)
    · skip
      refine V_iload_n (j := 1) C d_X12_count_95 rfl rfl ?_
      exact V_iret_w C hR d_X12_count_96 o_x2 h
set_option maxHeartbeats 4000000 in
set_option maxRecDepth 100000 in
theorem t_X12_count_108 {X : XT_x} {G : GT_g} {z : (Mem_m × Int)} (C : Cx_ (K_X12_count) X G) (hR : Rx_ X G (some .int)) (M : Mem_m) (x0 : Nat) : ∀ (n : Nat) (x2 : Int) (x3 : Int) (o_x2 : ok_i x2) (o_x3 : ok_i x3), f_X12_count_108 G.2.2.2 M x0 n x2 x3 = some z → V_ (K_X12_count) X G (Fq_ X G (Qi_ G z.1 z.2)) M 108 [(0, .ref (G.1 + x0)), (2, iv_i x2), (3, iv_i x3)] [] := by
  intro n
  induction n with
  | zero => intro x2 x3 o_x2 o_x3 h; exact absurd h (by simp [f_X12_count_108])
  | succ n ih =>
    intro x2 x3 o_x2 o_x3 h
    unfold f_X12_count_108 at h
    refine V_iload_n (j := 2) C d_X12_count_108 rfl rfl ?_
    refine V_aload_n (j := 0) C d_X12_count_109 rfl rfl ?_
    refine V_getR C ck_12 fw_X12_9 d_X12_count_110 h (fun v1 h => ?_)
    refine V_sipush (v := 1063) C d_X12_count_113 rfl ?_
    refine V_iald C d_X12_count_116 (okc rfl) h (fun v2 o2 h => ?_)
    refine V_icmp_ge (tgt := 136) C d_X12_count_117 (by decide) o_x3 o2 h (fun h => ?_) (fun h => ?_)
    · skip
      refine V_iload_n (j := 1) C d_X12_count_120 rfl rfl ?_
      refine V_aload_n (j := 0) C d_X12_count_121 rfl rfl ?_
      refine V_iload_n (j := 2) C d_X12_count_122 rfl rfl ?_
      refine V_bipush (v := 6) C d_X12_count_123 rfl ?_
      refine V_callVri (K' := K_X12_noteOf) (a := x0) (ci := 12) (av := [iv_i x3, iv_i 6]) (rest := [iv_i x2]) yi_X12_noteOf (by decide) rfl C (yk_X12_noteOf) l1_X12_133 (by decide) d_X12_count_125 (fun v hv => ct_X12_noteOf x0 x3 6 o_x3 (okc rfl) hv) rfl rfl (Nat.le_of_ble_eq_true rfl) h (fun v3 o3 h => ?_)
      refine V_iadd C d_X12_count_128 ?_
      refine V_istore_n (lv' := [(2, iv_i (wr_i (x2 + v3))), (0, .ref (G.1 + x0)), (3, iv_i x3)]) C d_X12_count_129 rfl (by decide) rfl ?_
      refine V_iinc (j := 2) (lv' := [(3, iv_i (wr_i (x3 + 1))), (2, iv_i (wr_i (x2 + v3))), (0, .ref (G.1 + x0))]) C d_X12_count_130 rfl (by decide) rfl ?_
      refine V_goto (tgt := 108) C d_X12_count_133 (by decide) ?_
      refine V_lv [2, 1, 0] rfl (ih (wr_i (x2 + v3)) (wr_i (x3 + 1)) (ok_wr _) (ok_wr _) h)
    · skip
      refine V_iload_n (j := 1) C d_X12_count_136 rfl rfl ?_
      exact V_iret_w C hR d_X12_count_137 o_x2 h
set_option maxHeartbeats 4000000 in
set_option maxRecDepth 100000 in
theorem t_X12_count_167 {X : XT_x} {G : GT_g} {z : (Mem_m × Int)} (C : Cx_ (K_X12_count) X G) (hR : Rx_ X G (some .int)) (x0 : Nat) : ∀ (n : Nat) (M : Mem_m) (x2 : Int) (x3 : Int) (o_x2 : ok_i x2) (o_x3 : ok_i x3), f_X12_count_167 G.2.2.2 x0 n M x2 x3 = some z → V_ (K_X12_count) X G (Fq_ X G (Qi_ G z.1 z.2)) M 167 [(0, .ref (G.1 + x0)), (2, iv_i x2), (3, iv_i x3)] [] := by
  intro n
  induction n with
  | zero => intro M x2 x3 o_x2 o_x3 h; exact absurd h (by simp [f_X12_count_167])
  | succ n ih =>
    intro M x2 x3 o_x2 o_x3 h
    unfold f_X12_count_167 at h
    refine V_iload_n (j := 2) C d_X12_count_167 rfl rfl ?_
    refine V_aload_n (j := 0) C d_X12_count_168 rfl rfl ?_
    refine V_getR C ck_12 fw_X12_9 d_X12_count_169 h (fun v1 h => ?_)
    refine V_sipush (v := 1062) C d_X12_count_172 rfl ?_
    refine V_iald C d_X12_count_175 (okc rfl) h (fun v2 o2 h => ?_)
    refine V_icmp_ge (tgt := 212) C d_X12_count_176 (by decide) o_x3 o2 h (fun h => ?_) (fun h => ?_)
    · skip
      refine V_iload_n (j := 1) C d_X12_count_179 rfl rfl ?_
      refine V_aload_n (j := 0) C d_X12_count_180 rfl rfl ?_
      refine V_iload_n (j := 2) C d_X12_count_181 rfl rfl ?_
      refine V_callVri (K' := K_X12_counts) (a := x0) (ci := 12) (av := [iv_i x3]) (rest := [iv_i x2]) yi_X12_counts (by decide) rfl C (yk_X12_counts) l1_X12_111 (by decide) d_X12_count_182 (fun v hv => ct_X12_counts x0 x3 o_x3 hv) rfl rfl (Nat.le_of_ble_eq_true rfl) h (fun v3 o3 h => ?_)
      refine V_if_eq (tgt := 203) C d_X12_count_185 (by decide) o3 h (fun h => ?_) (fun h => ?_)
      · skip
        refine V_iconst C d_X12_count_203 ?_
        refine V_iadd C d_X12_count_204 ?_
        refine V_istore_n (lv' := [(2, iv_i (wr_i (x2 + 0))), (0, .ref (G.1 + x0)), (3, iv_i x3)]) C d_X12_count_205 rfl (by decide) rfl ?_
        refine V_iinc (j := 2) (lv' := [(3, iv_i (wr_i (x3 + 1))), (2, iv_i (wr_i (x2 + 0))), (0, .ref (G.1 + x0))]) C d_X12_count_206 rfl (by decide) rfl ?_
        refine V_goto (tgt := 167) C d_X12_count_209 (by decide) ?_
        refine V_lv [2, 1, 0] rfl (ih M (wr_i (x2 + 0)) (wr_i (x3 + 1)) (ok_wr _) (ok_wr _) h)
      · skip
        refine V_aload_n (j := 0) C d_X12_count_188 rfl rfl ?_
        refine V_iload_n (j := 2) C d_X12_count_189 rfl rfl ?_
        refine V_callVwi (K' := K_X12_notesOf) (a := x0) (ci := 12) (av := [iv_i x3]) (rest := [iv_i x2]) yi_X12_notesOf (by decide) rfl C (yk_X12_notesOf) l1_X12_156 (by decide) d_X12_count_190 (fun v hv => ct_X12_notesOf x0 x3 o_x3 hv) rfl rfl (Nat.le_of_ble_eq_true rfl) h (fun z4 o4 h => ?_)
        refine V_ldcw (v := 1048576) C d_X12_count_193 cn_X12_265 ?_
        refine V_icmp_lt (tgt := 203) C d_X12_count_196 (by decide) o4 (okc rfl) h (fun h => ?_) (fun h => ?_)
        · skip
          refine V_iconst C d_X12_count_203 ?_
          refine V_iadd C d_X12_count_204 ?_
          refine V_istore_n (lv' := [(2, iv_i (wr_i (x2 + 0))), (0, .ref (G.1 + x0)), (3, iv_i x3)]) C d_X12_count_205 rfl (by decide) rfl ?_
          refine V_iinc (j := 2) (lv' := [(3, iv_i (wr_i (x3 + 1))), (2, iv_i (wr_i (x2 + 0))), (0, .ref (G.1 + x0))]) C d_X12_count_206 rfl (by decide) rfl ?_
          refine V_goto (tgt := 167) C d_X12_count_209 (by decide) ?_
          refine V_lv [2, 1, 0] rfl (ih z4.1 (wr_i (x2 + 0)) (wr_i (x3 + 1)) (ok_wr _) (ok_wr _) h)
        · skip
          refine V_iconst C d_X12_count_199 ?_
          refine V_goto (tgt := 204) C d_X12_count_200 (by decide) ?_
          refine V_iadd C d_X12_count_204 ?_
          refine V_istore_n (lv' := [(2, iv_i (wr_i (x2 + 1))), (0, .ref (G.1 + x0)), (3, iv_i x3)]) C d_X12_count_205 rfl (by decide) rfl ?_
          refine V_iinc (j := 2) (lv' := [(3, iv_i (wr_i (x3 + 1))), (2, iv_i (wr_i (x2 + 1))), (0, .ref (G.1 + x0))]) C d_X12_count_206 rfl (by decide) rfl ?_
          refine V_goto (tgt := 167) C d_X12_count_209 (by decide) ?_
          refine V_lv [2, 1, 0] rfl (ih z4.1 (wr_i (x2 + 1)) (wr_i (x3 + 1)) (ok_wr _) (ok_wr _) h)
    · skip
      refine V_iload_n (j := 1) C d_X12_count_212 rfl rfl ?_
      exact V_iret_w C hR d_X12_count_213 o_x2 h
set_option maxHeartbeats 4000000 in
set_option maxRecDepth 100000 in
theorem t_X12_count {X : XT_x} {G : GT_g} {M : Mem_m} {z : (Mem_m × Int)} (C : Cx_ (K_X12_count) X G) (hR : Rx_ X G (some .int)) (x0 : Nat) (x1 : Int) (o_x1 : ok_i x1) (h : f_X12_count G.2.2.2 M x0 x1 = some z) : V_ (K_X12_count) X G (Fq_ X G (Qi_ G z.1 z.2)) M 0 [(0, .ref (G.1 + x0)), (1, iv_i x1)] [] := by
  unfold f_X12_count at h
  refine V_iconst C d_X12_count_0 ?_
  refine V_istore_n (lv' := [(2, iv_i 0), (0, .ref (G.1 + x0)), (1, iv_i x1)]) C d_X12_count_1 rfl (by decide) rfl ?_
  refine V_iload_n (j := 2) C d_X12_count_2 rfl rfl ?_
  refine V_eqs h (fun e1 h => ?_) (fun e1 h => ?_)
  · skip
    refine V_tabIn (tgt := 48) C d_X12_count_3 o_x1 (by omega) (by omega) (by rw [e1]; rfl) (by decide) ?_
    refine V_aload_n (j := 1) C d_X12_count_48 rfl rfl ?_
    refine V_getR C ck_12 fw_X12_9 d_X12_count_49 h (fun v2 h => ?_)
    refine V_sipush (v := 1062) C d_X12_count_52 rfl ?_
    refine V_iald C d_X12_count_55 (okc rfl) h (fun v3 o3 h => ?_)
    exact V_iret_w C hR d_X12_count_56 o3 h
  refine V_eqs h (fun e4 h => ?_) (fun e4 h => ?_)
  · skip
    refine V_tabIn (tgt := 57) C d_X12_count_3 o_x1 (by omega) (by omega) (by rw [e4]; rfl) (by decide) ?_
    refine V_iconst C d_X12_count_57 ?_
    refine V_istore_n (lv' := [(3, iv_i 0), (2, iv_i 0), (0, .ref (G.1 + x0)), (1, iv_i x1)]) C d_X12_count_58 rfl (by decide) rfl ?_
    refine V_lv [2, 1, 0] rfl (t_X12_count_59 C hR M x0 FU_ 0 0 (okc rfl) (okc rfl) h)
  refine V_eqs h (fun e5 h => ?_) (fun e5 h => ?_)
  · skip
    refine V_tabIn (tgt := 97) C d_X12_count_3 o_x1 (by omega) (by omega) (by rw [e5]; rfl) (by decide) ?_
    refine V_aload_n (j := 1) C d_X12_count_97 rfl rfl ?_
    refine V_getR C ck_12 fw_X12_9 d_X12_count_98 h (fun v6 h => ?_)
    refine V_sipush (v := 1063) C d_X12_count_101 rfl ?_
    refine V_iald C d_X12_count_104 (okc rfl) h (fun v7 o7 h => ?_)
    exact V_iret_w C hR d_X12_count_105 o7 h
  refine V_eqs h (fun e8 h => ?_) (fun e8 h => ?_)
  · skip
    refine V_tabIn (tgt := 106) C d_X12_count_3 o_x1 (by omega) (by omega) (by rw [e8]; rfl) (by decide) ?_
    refine V_iconst C d_X12_count_106 ?_
    refine V_istore_n (lv' := [(3, iv_i 0), (2, iv_i 0), (0, .ref (G.1 + x0)), (1, iv_i x1)]) C d_X12_count_107 rfl (by decide) rfl ?_
    refine V_lv [2, 1, 0] rfl (t_X12_count_108 C hR M x0 FU_ 0 0 (okc rfl) (okc rfl) h)
  refine V_eqs h (fun e9 h => ?_) (fun e9 h => ?_)
  · skip
    refine V_tabIn (tgt := 138) C d_X12_count_3 o_x1 (by omega) (by omega) (by rw [e9]; rfl) (by decide) ?_
    refine V_aload_n (j := 1) C d_X12_count_138 rfl rfl ?_
    refine V_getR C ck_12 fw_X12_9 d_X12_count_139 h (fun v10 h => ?_)
    refine V_sipush (v := 1064) C d_X12_count_142 rfl ?_
    refine V_iald C d_X12_count_145 (okc rfl) h (fun v11 o11 h => ?_)
    exact V_iret_w C hR d_X12_count_146 o11 h
  refine V_eqs h (fun e12 h => ?_) (fun e12 h => ?_)
  · skip
    refine V_tabIn (tgt := 147) C d_X12_count_3 o_x1 (by omega) (by omega) (by rw [e12]; rfl) (by decide) ?_
    refine V_aload_n (j := 1) C d_X12_count_147 rfl rfl ?_
    refine V_getR C ck_12 fw_X12_9 d_X12_count_148 h (fun v13 h => ?_)
    refine V_sipush (v := 1065) C d_X12_count_151 rfl ?_
    refine V_iald C d_X12_count_154 (okc rfl) h (fun v14 o14 h => ?_)
    exact V_iret_w C hR d_X12_count_155 o14 h
  refine V_eqs h (fun e15 h => ?_) (fun e15 h => ?_)
  · skip
    refine V_tabIn (tgt := 156) C d_X12_count_3 o_x1 (by omega) (by omega) (by rw [e15]; rfl) (by decide) ?_
    refine V_aload_n (j := 1) C d_X12_count_156 rfl rfl ?_
    refine V_getR C ck_12 fw_X12_9 d_X12_count_157 h (fun v16 h => ?_)
    refine V_sipush (v := 1066) C d_X12_count_160 rfl ?_
    refine V_iald C d_X12_count_163 (okc rfl) h (fun v17 o17 h => ?_)
    exact V_iret_w C hR d_X12_count_164 o17 h
  refine V_eqs h (fun e18 h => ?_) (fun e18 h => ?_)
  · skip
    refine V_tabIn (tgt := 165) C d_X12_count_3 o_x1 (by omega) (by omega) (by rw [e18]; rfl) (by decide) ?_
    refine V_iconst C d_X12_count_165 ?_
    refine V_istore_n (lv' := [(3, iv_i 0), (2, iv_i 0), (0, .ref (G.1 + x0)), (1, iv_i x1)]) C d_X12_count_166 rfl (by decide) rfl ?_
    refine V_lv [2, 1, 0] rfl (t_X12_count_167 C hR x0 FU_ M 0 0 (okc rfl) (okc rfl) h)
  refine V_tabOut (tgt := 214) C d_X12_count_3 o_x1 (by omega) (by decide) ?_
  refine V_iconst C d_X12_count_214 ?_
  exact V_iret_w C hR d_X12_count_215 (okc rfl) h
set_option maxHeartbeats 4000000 in
set_option maxRecDepth 100000 in
theorem ct_X12_count {l : Launch} {G : GT_g} {M : Mem_m} (x0 : Nat) (x1 : Int) (o_x1 : ok_i x1) {z : (Mem_m × Int)} (h : f_X12_count G.2.2.2 M x0 x1 = some z) : MI_ l yX12_count K_X12_count (some .int) G M [.ref (G.1 + x0), iv_i x1] z.1 z.2 :=
  met_of (by decide +kernel) rfl (Nat.le_of_ble_eq_true rfl) (fun X hl C hR => by subst hl; exact t_X12_count C hR x0 x1 o_x1 h)
theorem d_X12_keep_0 : decode cX12_keep 0 = .ok (.iload_n 1, 1) := by decide +kernel
theorem d_X12_keep_1 : decode cX12_keep 1 = .ok (.invokestatic 75, 3) := by decide +kernel
theorem d_X12_keep_4 : decode cX12_keep 4 = .ok (.ifCond .eq 26, 3) := by decide +kernel
theorem d_X12_keep_7 : decode cX12_keep 7 = .ok (.iload_n 2, 1) := by decide +kernel
theorem d_X12_keep_8 : decode cX12_keep 8 = .ok (.i2l, 1) := by decide +kernel
theorem d_X12_keep_9 : decode cX12_keep 9 = .ok (.lconst 0, 1) := by decide +kernel
theorem d_X12_keep_10 : decode cX12_keep 10 = .ok (.lconst 1, 1) := by decide +kernel
theorem d_X12_keep_11 : decode cX12_keep 11 = .ok (.invokestatic 69, 3) := by decide +kernel
theorem d_X12_keep_14 : decode cX12_keep 14 = .ok (.ifCond .eq 16, 3) := by decide +kernel
theorem d_X12_keep_17 : decode cX12_keep 17 = .ok (.iload_n 2, 1) := by decide +kernel
theorem d_X12_keep_18 : decode cX12_keep 18 = .ok (.iconst 1, 1) := by decide +kernel
theorem d_X12_keep_19 : decode cX12_keep 19 = .ok (.if_icmp .ne 13, 3) := by decide +kernel
theorem d_X12_keep_22 : decode cX12_keep 22 = .ok (.aload_n 0, 1) := by decide +kernel
theorem d_X12_keep_23 : decode cX12_keep 23 = .ok (.iload_n 3, 1) := by decide +kernel
theorem d_X12_keep_24 : decode cX12_keep 24 = .ok (.invokevirtual 130, 3) := by decide +kernel
theorem d_X12_keep_27 : decode cX12_keep 27 = .ok (.ifCond .ne 5, 3) := by decide +kernel
theorem d_X12_keep_30 : decode cX12_keep 30 = .ok (.iconst (-1), 1) := by decide +kernel
theorem d_X12_keep_31 : decode cX12_keep 31 = .ok (.ireturn, 1) := by decide +kernel
theorem d_X12_keep_32 : decode cX12_keep 32 = .ok (.aload_n 0, 1) := by decide +kernel
theorem d_X12_keep_33 : decode cX12_keep 33 = .ok (.getfield 16, 3) := by decide +kernel
theorem d_X12_keep_36 : decode cX12_keep 36 = .ok (.iload_n 1, 1) := by decide +kernel
theorem d_X12_keep_37 : decode cX12_keep 37 = .ok (.iload_n 2, 1) := by decide +kernel
theorem d_X12_keep_38 : decode cX12_keep 38 = .ok (.iastore, 1) := by decide +kernel
theorem d_X12_keep_39 : decode cX12_keep 39 = .ok (.iload_n 2, 1) := by decide +kernel
theorem d_X12_keep_40 : decode cX12_keep 40 = .ok (.ifCond .ne 5, 3) := by decide +kernel
theorem d_X12_keep_43 : decode cX12_keep 43 = .ok (.iconst 0, 1) := by decide +kernel
theorem d_X12_keep_44 : decode cX12_keep 44 = .ok (.ireturn, 1) := by decide +kernel
theorem d_X12_keep_45 : decode cX12_keep 45 = .ok (.aload_n 0, 1) := by decide +kernel
theorem d_X12_keep_46 : decode cX12_keep 46 = .ok (.iload_n 3, 1) := by decide +kernel
theorem d_X12_keep_47 : decode cX12_keep 47 = .ok (.iconst 0, 1) := by decide +kernel
theorem d_X12_keep_48 : decode cX12_keep 48 = .ok (.invokevirtual 133, 3) := by decide +kernel
theorem d_X12_keep_51 : decode cX12_keep 51 = .ok (.istore 4, 2) := by decide +kernel
theorem d_X12_keep_53 : decode cX12_keep 53 = .ok (.aload_n 0, 1) := by decide +kernel
theorem d_X12_keep_54 : decode cX12_keep 54 = .ok (.getfield 28, 3) := by decide +kernel
theorem d_X12_keep_57 : decode cX12_keep 57 = .ok (.iload_n 1, 1) := by decide +kernel
theorem d_X12_keep_58 : decode cX12_keep 58 = .ok (.aload_n 0, 1) := by decide +kernel
theorem d_X12_keep_59 : decode cX12_keep 59 = .ok (.iload_n 3, 1) := by decide +kernel
theorem d_X12_keep_60 : decode cX12_keep 60 = .ok (.invokevirtual 153, 3) := by decide +kernel
theorem d_X12_keep_63 : decode cX12_keep 63 = .ok (.iastore, 1) := by decide +kernel
theorem d_X12_keep_64 : decode cX12_keep 64 = .ok (.aload_n 0, 1) := by decide +kernel
theorem d_X12_keep_65 : decode cX12_keep 65 = .ok (.getfield 31, 3) := by decide +kernel
theorem d_X12_keep_68 : decode cX12_keep 68 = .ok (.iload_n 1, 1) := by decide +kernel
theorem d_X12_keep_69 : decode cX12_keep 69 = .ok (.iload 4, 2) := by decide +kernel
theorem d_X12_keep_71 : decode cX12_keep 71 = .ok (.iconst 2, 1) := by decide +kernel
theorem d_X12_keep_72 : decode cX12_keep 72 = .ok (.if_icmp .eq 13, 3) := by decide +kernel
theorem d_X12_keep_75 : decode cX12_keep 75 = .ok (.aload_n 0, 1) := by decide +kernel
theorem d_X12_keep_76 : decode cX12_keep 76 = .ok (.iload_n 3, 1) := by decide +kernel
theorem d_X12_keep_77 : decode cX12_keep 77 = .ok (.iconst 1, 1) := by decide +kernel
theorem d_X12_keep_78 : decode cX12_keep 78 = .ok (.invokevirtual 133, 3) := by decide +kernel
theorem d_X12_keep_81 : decode cX12_keep 81 = .ok (.iconst 1, 1) := by decide +kernel
theorem d_X12_keep_82 : decode cX12_keep 82 = .ok (.if_icmp .ne 8, 3) := by decide +kernel
theorem d_X12_keep_85 : decode cX12_keep 85 = .ok (.bipush (-15), 2) := by decide +kernel
theorem d_X12_keep_87 : decode cX12_keep 87 = .ok (.goto 32, 3) := by decide +kernel
theorem d_X12_keep_90 : decode cX12_keep 90 = .ok (.iload 4, 2) := by decide +kernel
theorem d_X12_keep_92 : decode cX12_keep 92 = .ok (.iconst 4, 1) := by decide +kernel
theorem d_X12_keep_93 : decode cX12_keep 93 = .ok (.if_icmp .ne 10, 3) := by decide +kernel
theorem d_X12_keep_96 : decode cX12_keep 96 = .ok (.iload_n 3, 1) := by decide +kernel
theorem d_X12_keep_97 : decode cX12_keep 97 = .ok (.bipush 100, 2) := by decide +kernel
theorem d_X12_keep_99 : decode cX12_keep 99 = .ok (.iadd, 1) := by decide +kernel
theorem d_X12_keep_100 : decode cX12_keep 100 = .ok (.goto 19, 3) := by decide +kernel
theorem d_X12_keep_103 : decode cX12_keep 103 = .ok (.iload 4, 2) := by decide +kernel
theorem d_X12_keep_105 : decode cX12_keep 105 = .ok (.iconst 3, 1) := by decide +kernel
theorem d_X12_keep_106 : decode cX12_keep 106 = .ok (.if_icmp .ne 12, 3) := by decide +kernel
theorem d_X12_keep_109 : decode cX12_keep 109 = .ok (.aload_n 0, 1) := by decide +kernel
theorem d_X12_keep_110 : decode cX12_keep 110 = .ok (.iload_n 3, 1) := by decide +kernel
theorem d_X12_keep_111 : decode cX12_keep 111 = .ok (.iconst 2, 1) := by decide +kernel
theorem d_X12_keep_112 : decode cX12_keep 112 = .ok (.invokevirtual 133, 3) := by decide +kernel
theorem d_X12_keep_115 : decode cX12_keep 115 = .ok (.goto 4, 3) := by decide +kernel
theorem d_X12_keep_118 : decode cX12_keep 118 = .ok (.iload_n 3, 1) := by decide +kernel
theorem d_X12_keep_119 : decode cX12_keep 119 = .ok (.iastore, 1) := by decide +kernel
theorem d_X12_keep_120 : decode cX12_keep 120 = .ok (.iconst 0, 1) := by decide +kernel
theorem d_X12_keep_121 : decode cX12_keep 121 = .ok (.ireturn, 1) := by decide +kernel
set_option maxHeartbeats 4000000 in
set_option maxRecDepth 100000 in
theorem t_X12_keep_32 {X : XT_x} {G : GT_g} {z : (Mem_m × Int)} (C : Cx_ (K_X12_keep) X G) (hR : Rx_ X G (some .int)) (M : Mem_m) (x0 : Nat) (x1 : Int) (x2 : Int) (x3 : Int) (o_x1 : ok_i x1) (o_x2 : ok_i x2) (o_x3 : ok_i x3) (h : f_X12_keep_32 G.2.2.2 M x0 x1 x2 x3 = some z) : V_ (K_X12_keep) X G (Fq_ X G (Qi_ G z.1 z.2)) M 32 [(0, .ref (G.1 + x0)), (1, iv_i x1), (2, iv_i x2), (3, iv_i x3)] [] := by
  unfold f_X12_keep_32 at h
  refine V_aload_n (j := 0) C d_X12_keep_32 rfl rfl ?_
  refine V_getR C ck_12 fw_X12_16 d_X12_keep_33 h (fun v1 h => ?_)
  refine V_iload_n (j := 1) C d_X12_keep_36 rfl rfl ?_
  refine V_iload_n (j := 2) C d_X12_keep_37 rfl rfl ?_
  refine V_iast C d_X12_keep_38 o_x1 o_x2 h (fun M2 h => ?_)
  refine V_iload_n (j := 2) C d_X12_keep_39 rfl rfl ?_
  refine V_if_ne (tgt := 45) C d_X12_keep_40 (by decide) o_x2 h (fun h => ?_) (fun h => ?_)
  · skip
    refine V_iconst C d_X12_keep_43 ?_
    exact V_iret_w C hR d_X12_keep_44 (okc rfl) h
  · skip
    refine V_aload_n (j := 0) C d_X12_keep_45 rfl rfl ?_
    refine V_iload_n (j := 3) C d_X12_keep_46 rfl rfl ?_
    refine V_iconst C d_X12_keep_47 ?_
    refine V_callVri (K' := K_X12_noteOf) (a := x0) (ci := 12) (av := [iv_i x3, iv_i 0]) (rest := []) yi_X12_noteOf (by decide) rfl C (yk_X12_noteOf) l1_X12_133 (by decide) d_X12_keep_48 (fun v hv => ct_X12_noteOf x0 x3 0 o_x3 (okc rfl) hv) rfl rfl (Nat.le_of_ble_eq_true rfl) h (fun v3 o3 h => ?_)
    refine V_istore (lv' := [(4, iv_i v3), (0, .ref (G.1 + x0)), (1, iv_i x1), (2, iv_i x2), (3, iv_i x3)]) C d_X12_keep_51 (by decide) rfl ?_
    refine V_aload_n (j := 1) C d_X12_keep_53 rfl rfl ?_
    refine V_getR C ck_12 fw_X12_28 d_X12_keep_54 h (fun v4 h => ?_)
    refine V_iload_n (j := 2) C d_X12_keep_57 rfl rfl ?_
    refine V_aload_n (j := 1) C d_X12_keep_58 rfl rfl ?_
    refine V_iload_n (j := 4) C d_X12_keep_59 rfl rfl ?_
    refine V_callVri (K' := K_X12_lengthOf) (a := x0) (ci := 12) (av := [iv_i x3]) (rest := [iv_i x1, .ref (G.1 + v4)]) yi_X12_lengthOf (by decide) rfl C (yk_X12_lengthOf) l1_X12_153 (by decide) d_X12_keep_60 (fun v hv => ct_X12_lengthOf x0 x3 o_x3 hv) rfl rfl (Nat.le_of_ble_eq_true rfl) h (fun v5 o5 h => ?_)
    refine V_iast C d_X12_keep_63 o_x1 o5 h (fun M6 h => ?_)
    refine V_aload_n (j := 1) C d_X12_keep_64 rfl rfl ?_
    refine V_getR C ck_12 fw_X12_31 d_X12_keep_65 h (fun v7 h => ?_)
    refine V_iload_n (j := 2) C d_X12_keep_68 rfl rfl ?_
    refine V_iload (j := 0) C d_X12_keep_69 rfl ?_
    refine V_iconst C d_X12_keep_71 ?_
    refine V_icmp_eq (tgt := 85) C d_X12_keep_72 (by decide) o3 (okc rfl) h (fun h => ?_) (fun h => ?_)
    · skip
      refine V_bipush (v := (-15)) C d_X12_keep_85 rfl ?_
      refine V_goto (tgt := 119) C d_X12_keep_87 (by decide) ?_
      refine V_iast C d_X12_keep_119 o_x1 (okc rfl) h (fun M8 h => ?_)
      refine V_iconst C d_X12_keep_120 ?_
      exact V_iret_w C hR d_X12_keep_121 (okc rfl) h
    · skip
      refine V_aload_n (j := 1) C d_X12_keep_75 rfl rfl ?_
      refine V_iload_n (j := 4) C d_X12_keep_76 rfl rfl ?_
      refine V_iconst C d_X12_keep_77 ?_
      refine V_callVri (K' := K_X12_noteOf) (a := x0) (ci := 12) (av := [iv_i x3, iv_i 1]) (rest := [iv_i x1, .ref (G.1 + v7)]) yi_X12_noteOf (by decide) rfl C (yk_X12_noteOf) l1_X12_133 (by decide) d_X12_keep_78 (fun v hv => ct_X12_noteOf x0 x3 1 o_x3 (okc rfl) hv) rfl rfl (Nat.le_of_ble_eq_true rfl) h (fun v9 o9 h => ?_)
      refine V_iconst C d_X12_keep_81 ?_
      refine V_icmp_ne (tgt := 90) C d_X12_keep_82 (by decide) o9 (okc rfl) h (fun h => ?_) (fun h => ?_)
      · skip
        refine V_bipush (v := (-15)) C d_X12_keep_85 rfl ?_
        refine V_goto (tgt := 119) C d_X12_keep_87 (by decide) ?_
        refine V_iast C d_X12_keep_119 o_x1 (okc rfl) h (fun M10 h => ?_)
        refine V_iconst C d_X12_keep_120 ?_
        exact V_iret_w C hR d_X12_keep_121 (okc rfl) h
      · skip
        refine V_iload (j := 0) C d_X12_keep_90 rfl ?_
        refine V_iconst C d_X12_keep_92 ?_
        refine V_icmp_ne (tgt := 103) C d_X12_keep_93 (by decide) o3 (okc rfl) h (fun h => ?_) (fun h => ?_)
        · skip
          refine V_iload_n (j := 4) C d_X12_keep_96 rfl rfl ?_
          refine V_bipush (v := 100) C d_X12_keep_97 rfl ?_
          refine V_iadd C d_X12_keep_99 ?_
          refine V_goto (tgt := 119) C d_X12_keep_100 (by decide) ?_
          refine V_iast C d_X12_keep_119 o_x1 (ok_wr _) h (fun M11 h => ?_)
          refine V_iconst C d_X12_keep_120 ?_
          exact V_iret_w C hR d_X12_keep_121 (okc rfl) h
        · skip
          refine V_iload (j := 0) C d_X12_keep_103 rfl ?_
          refine V_iconst C d_X12_keep_105 ?_
          refine V_icmp_ne (tgt := 118) C d_X12_keep_106 (by decide) o3 (okc rfl) h (fun h => ?_) (fun h => ?_)
          · skip
            refine V_aload_n (j := 1) C d_X12_keep_109 rfl rfl ?_
            refine V_iload_n (j := 4) C d_X12_keep_110 rfl rfl ?_
            refine V_iconst C d_X12_keep_111 ?_
            refine V_callVri (K' := K_X12_noteOf) (a := x0) (ci := 12) (av := [iv_i x3, iv_i 2]) (rest := [iv_i x1, .ref (G.1 + v7)]) yi_X12_noteOf (by decide) rfl C (yk_X12_noteOf) l1_X12_133 (by decide) d_X12_keep_112 (fun v hv => ct_X12_noteOf x0 x3 2 o_x3 (okc rfl) hv) rfl rfl (Nat.le_of_ble_eq_true rfl) h (fun v12 o12 h => ?_)
            refine V_goto (tgt := 119) C d_X12_keep_115 (by decide) ?_
            refine V_iast C d_X12_keep_119 o_x1 o12 h (fun M13 h => ?_)
            refine V_iconst C d_X12_keep_120 ?_
            exact V_iret_w C hR d_X12_keep_121 (okc rfl) h
          · skip
            refine V_iload_n (j := 4) C d_X12_keep_118 rfl rfl ?_
            refine V_iast C d_X12_keep_119 o_x1 o_x3 h (fun M14 h => ?_)
            refine V_iconst C d_X12_keep_120 ?_
            exact V_iret_w C hR d_X12_keep_121 (okc rfl) h
set_option maxHeartbeats 4000000 in
set_option maxRecDepth 100000 in
theorem t_X12_keep {X : XT_x} {G : GT_g} {M : Mem_m} {z : (Mem_m × Int)} (C : Cx_ (K_X12_keep) X G) (hR : Rx_ X G (some .int)) (x0 : Nat) (x1 : Int) (x2 : Int) (x3 : Int) (o_x1 : ok_i x1) (o_x2 : ok_i x2) (o_x3 : ok_i x3) (h : f_X12_keep G.2.2.2 M x0 x1 x2 x3 = some z) : V_ (K_X12_keep) X G (Fq_ X G (Qi_ G z.1 z.2)) M 0 [(0, .ref (G.1 + x0)), (1, iv_i x1), (2, iv_i x2), (3, iv_i x3)] [] := by
  unfold f_X12_keep at h
  refine V_iload_n (j := 1) C d_X12_keep_0 rfl rfl ?_
  refine V_callSri (K' := K_X12_isShelf) (av := [iv_i x1]) (rest := []) ys_X12_isShelf C (yk_X12_isShelf) l1_X12_75 (by decide) d_X12_keep_1 (fun v hv => ct_X12_isShelf x1 o_x1 hv) rfl rfl (Nat.le_of_ble_eq_true rfl) h (fun v1 o1 h => ?_)
  refine V_if_eq (tgt := 30) C d_X12_keep_4 (by decide) o1 h (fun h => ?_) (fun h => ?_)
  · skip
    refine V_iconst C d_X12_keep_30 ?_
    exact V_iret_w C hR d_X12_keep_31 (okc rfl) h
  · skip
    refine V_iload_n (j := 2) C d_X12_keep_7 rfl rfl ?_
    refine V_i2l C d_X12_keep_8 o_x2 ?_
    refine V_lconst0 C d_X12_keep_9 ?_
    refine V_lconst1 C d_X12_keep_10 ?_
    refine V_callSri (K' := K_X12_isIn) (av := [jv_i x2, jv_i 0, jv_i 1]) (rest := []) ys_X12_isIn C (yk_X12_isIn) l1_X12_69 (by decide) d_X12_keep_11 (fun v hv => ct_X12_isIn x2 0 1 o_x2 (okc rfl) (okc rfl) hv) rfl rfl (Nat.le_of_ble_eq_true rfl) h (fun v2 o2 h => ?_)
    refine V_if_eq (tgt := 30) C d_X12_keep_14 (by decide) o2 h (fun h => ?_) (fun h => ?_)
    · skip
      refine V_iconst C d_X12_keep_30 ?_
      exact V_iret_w C hR d_X12_keep_31 (okc rfl) h
    · skip
      refine V_iload_n (j := 2) C d_X12_keep_17 rfl rfl ?_
      refine V_iconst C d_X12_keep_18 ?_
      refine V_icmp_ne (tgt := 32) C d_X12_keep_19 (by decide) o_x2 (okc rfl) h (fun h => ?_) (fun h => ?_)
      · skip
        refine V_aload_n (j := 0) C d_X12_keep_22 rfl rfl ?_
        refine V_iload_n (j := 3) C d_X12_keep_23 rfl rfl ?_
        refine V_callVri (K' := K_X12_isNote) (a := x0) (ci := 12) (av := [iv_i x3]) (rest := []) yi_X12_isNote (by decide) rfl C (yk_X12_isNote) l1_X12_130 (by decide) d_X12_keep_24 (fun v hv => ct_X12_isNote x0 x3 o_x3 hv) rfl rfl (Nat.le_of_ble_eq_true rfl) h (fun v3 o3 h => ?_)
        refine V_if_ne (tgt := 32) C d_X12_keep_27 (by decide) o3 h (fun h => ?_) (fun h => ?_)
        · skip
          refine V_iconst C d_X12_keep_30 ?_
          exact V_iret_w C hR d_X12_keep_31 (okc rfl) h
        · skip
          refine V_lv [0, 1, 2, 3] rfl (t_X12_keep_32 C hR M x0 x1 x2 x3 o_x1 o_x2 o_x3 h)
      · skip
        refine V_lv [0, 1, 2, 3] rfl (t_X12_keep_32 C hR M x0 x1 x2 x3 o_x1 o_x2 o_x3 h)
set_option maxHeartbeats 4000000 in
set_option maxRecDepth 100000 in
theorem ct_X12_keep {l : Launch} {G : GT_g} {M : Mem_m} (x0 : Nat) (x1 : Int) (x2 : Int) (x3 : Int) (o_x1 : ok_i x1) (o_x2 : ok_i x2) (o_x3 : ok_i x3) {z : (Mem_m × Int)} (h : f_X12_keep G.2.2.2 M x0 x1 x2 x3 = some z) : MI_ l yX12_keep K_X12_keep (some .int) G M [.ref (G.1 + x0), iv_i x1, iv_i x2, iv_i x3] z.1 z.2 :=
  met_of (by decide +kernel) rfl (Nat.le_of_ble_eq_true rfl) (fun X hl C hR => by subst hl; exact t_X12_keep C hR x0 x1 x2 x3 o_x1 o_x2 o_x3 h)
theorem d_X12_row_0 : decode cX12_row 0 = .ok (.iload_n 1, 1) := by decide +kernel
theorem d_X12_row_1 : decode cX12_row 1 = .ok (.invokestatic 75, 3) := by decide +kernel
theorem d_X12_row_4 : decode cX12_row 4 = .ok (.ifCond .eq 21, 3) := by decide +kernel
theorem d_X12_row_7 : decode cX12_row 7 = .ok (.iload_n 2, 1) := by decide +kernel
theorem d_X12_row_8 : decode cX12_row 8 = .ok (.i2l, 1) := by decide +kernel
theorem d_X12_row_9 : decode cX12_row 9 = .ok (.lconst 0, 1) := by decide +kernel
theorem d_X12_row_10 : decode cX12_row 10 = .ok (.ldc2_w 302, 3) := by decide +kernel
theorem d_X12_row_13 : decode cX12_row 13 = .ok (.invokestatic 69, 3) := by decide +kernel
theorem d_X12_row_16 : decode cX12_row 16 = .ok (.ifCond .eq 9, 3) := by decide +kernel
theorem d_X12_row_19 : decode cX12_row 19 = .ok (.iload_n 3, 1) := by decide +kernel
theorem d_X12_row_20 : decode cX12_row 20 = .ok (.bipush 80, 2) := by decide +kernel
theorem d_X12_row_22 : decode cX12_row 22 = .ok (.if_icmp .le 5, 3) := by decide +kernel
theorem d_X12_row_25 : decode cX12_row 25 = .ok (.iconst (-1), 1) := by decide +kernel
theorem d_X12_row_26 : decode cX12_row 26 = .ok (.ireturn, 1) := by decide +kernel
theorem d_X12_row_27 : decode cX12_row 27 = .ok (.iload_n 3, 1) := by decide +kernel
theorem d_X12_row_28 : decode cX12_row 28 = .ok (.ifCond .ge 6, 3) := by decide +kernel
theorem d_X12_row_31 : decode cX12_row 31 = .ok (.bipush (-14), 2) := by decide +kernel
theorem d_X12_row_33 : decode cX12_row 33 = .ok (.ireturn, 1) := by decide +kernel
theorem d_X12_row_34 : decode cX12_row 34 = .ok (.aload_n 0, 1) := by decide +kernel
theorem d_X12_row_35 : decode cX12_row 35 = .ok (.getfield 16, 3) := by decide +kernel
theorem d_X12_row_38 : decode cX12_row 38 = .ok (.iload_n 1, 1) := by decide +kernel
theorem d_X12_row_39 : decode cX12_row 39 = .ok (.iconst 2, 1) := by decide +kernel
theorem d_X12_row_40 : decode cX12_row 40 = .ok (.iastore, 1) := by decide +kernel
theorem d_X12_row_41 : decode cX12_row 41 = .ok (.aload_n 0, 1) := by decide +kernel
theorem d_X12_row_42 : decode cX12_row 42 = .ok (.getfield 19, 3) := by decide +kernel
theorem d_X12_row_45 : decode cX12_row 45 = .ok (.iload_n 1, 1) := by decide +kernel
theorem d_X12_row_46 : decode cX12_row 46 = .ok (.iload_n 2, 1) := by decide +kernel
theorem d_X12_row_47 : decode cX12_row 47 = .ok (.iastore, 1) := by decide +kernel
theorem d_X12_row_48 : decode cX12_row 48 = .ok (.aload_n 0, 1) := by decide +kernel
theorem d_X12_row_49 : decode cX12_row 49 = .ok (.getfield 22, 3) := by decide +kernel
theorem d_X12_row_52 : decode cX12_row 52 = .ok (.iload_n 1, 1) := by decide +kernel
theorem d_X12_row_53 : decode cX12_row 53 = .ok (.iload_n 3, 1) := by decide +kernel
theorem d_X12_row_54 : decode cX12_row 54 = .ok (.iastore, 1) := by decide +kernel
theorem d_X12_row_55 : decode cX12_row 55 = .ok (.iconst 0, 1) := by decide +kernel
theorem d_X12_row_56 : decode cX12_row 56 = .ok (.istore 4, 2) := by decide +kernel
theorem d_X12_row_58 : decode cX12_row 58 = .ok (.iload 4, 2) := by decide +kernel
theorem d_X12_row_60 : decode cX12_row 60 = .ok (.bipush 80, 2) := by decide +kernel
theorem d_X12_row_62 : decode cX12_row 62 = .ok (.if_icmp .ge 22, 3) := by decide +kernel
theorem d_X12_row_65 : decode cX12_row 65 = .ok (.aload_n 0, 1) := by decide +kernel
theorem d_X12_row_66 : decode cX12_row 66 = .ok (.getfield 25, 3) := by decide +kernel
theorem d_X12_row_69 : decode cX12_row 69 = .ok (.bipush 80, 2) := by decide +kernel
theorem d_X12_row_71 : decode cX12_row 71 = .ok (.iload_n 1, 1) := by decide +kernel
theorem d_X12_row_72 : decode cX12_row 72 = .ok (.imul, 1) := by decide +kernel
theorem d_X12_row_73 : decode cX12_row 73 = .ok (.iload 4, 2) := by decide +kernel
theorem d_X12_row_75 : decode cX12_row 75 = .ok (.iadd, 1) := by decide +kernel
theorem d_X12_row_76 : decode cX12_row 76 = .ok (.iconst 0, 1) := by decide +kernel
theorem d_X12_row_77 : decode cX12_row 77 = .ok (.iastore, 1) := by decide +kernel
theorem d_X12_row_78 : decode cX12_row 78 = .ok (.iinc 4 1, 3) := by decide +kernel
theorem d_X12_row_81 : decode cX12_row 81 = .ok (.goto (-23), 3) := by decide +kernel
theorem d_X12_row_84 : decode cX12_row 84 = .ok (.iconst 0, 1) := by decide +kernel
theorem d_X12_row_85 : decode cX12_row 85 = .ok (.ireturn, 1) := by decide +kernel
set_option maxHeartbeats 4000000 in
set_option maxRecDepth 100000 in
theorem t_X12_row_58 {X : XT_x} {G : GT_g} {z : (Mem_m × Int)} (C : Cx_ (K_X12_row) X G) (hR : Rx_ X G (some .int)) (x0 : Nat) (x1 : Int) (o_x1 : ok_i x1) : ∀ (n : Nat) (M : Mem_m) (x4 : Int) (o_x4 : ok_i x4), f_X12_row_58 G.2.2.2 x0 x1 n M x4 = some z → V_ (K_X12_row) X G (Fq_ X G (Qi_ G z.1 z.2)) M 58 [(0, .ref (G.1 + x0)), (1, iv_i x1), (4, iv_i x4)] [] := by
  intro n
  induction n with
  | zero => intro M x4 o_x4 h; exact absurd h (by simp [f_X12_row_58])
  | succ n ih =>
    intro M x4 o_x4 h
    unfold f_X12_row_58 at h
    refine V_iload (j := 2) C d_X12_row_58 rfl ?_
    refine V_bipush (v := 80) C d_X12_row_60 rfl ?_
    refine V_icmp_ge (tgt := 84) C d_X12_row_62 (by decide) o_x4 (okc rfl) h (fun h => ?_) (fun h => ?_)
    · skip
      refine V_aload_n (j := 0) C d_X12_row_65 rfl rfl ?_
      refine V_getR C ck_12 fw_X12_25 d_X12_row_66 h (fun v1 h => ?_)
      refine V_bipush (v := 80) C d_X12_row_69 rfl ?_
      refine V_iload_n (j := 1) C d_X12_row_71 rfl rfl ?_
      refine V_imul C d_X12_row_72 ?_
      refine V_iload (j := 2) C d_X12_row_73 rfl ?_
      refine V_iadd C d_X12_row_75 ?_
      refine V_iconst C d_X12_row_76 ?_
      refine V_iast C d_X12_row_77 (ok_wr _) (okc rfl) h (fun M2 h => ?_)
      refine V_iinc (j := 2) (lv' := [(4, iv_i (wr_i (x4 + 1))), (0, .ref (G.1 + x0)), (1, iv_i x1)]) C d_X12_row_78 rfl (by decide) rfl ?_
      refine V_goto (tgt := 58) C d_X12_row_81 (by decide) ?_
      refine V_lv [1, 2, 0] rfl (ih M2 (wr_i (x4 + 1)) (ok_wr _) h)
    · skip
      refine V_iconst C d_X12_row_84 ?_
      exact V_iret_w C hR d_X12_row_85 (okc rfl) h
set_option maxHeartbeats 4000000 in
set_option maxRecDepth 100000 in
theorem t_X12_row {X : XT_x} {G : GT_g} {M : Mem_m} {z : (Mem_m × Int)} (C : Cx_ (K_X12_row) X G) (hR : Rx_ X G (some .int)) (x0 : Nat) (x1 : Int) (x2 : Int) (x3 : Int) (o_x1 : ok_i x1) (o_x2 : ok_i x2) (o_x3 : ok_i x3) (h : f_X12_row G.2.2.2 M x0 x1 x2 x3 = some z) : V_ (K_X12_row) X G (Fq_ X G (Qi_ G z.1 z.2)) M 0 [(0, .ref (G.1 + x0)), (1, iv_i x1), (2, iv_i x2), (3, iv_i x3)] [] := by
  unfold f_X12_row at h
  refine V_iload_n (j := 1) C d_X12_row_0 rfl rfl ?_
  refine V_callSri (K' := K_X12_isShelf) (av := [iv_i x1]) (rest := []) ys_X12_isShelf C (yk_X12_isShelf) l1_X12_75 (by decide) d_X12_row_1 (fun v hv => ct_X12_isShelf x1 o_x1 hv) rfl rfl (Nat.le_of_ble_eq_true rfl) h (fun v1 o1 h => ?_)
  refine V_if_eq (tgt := 25) C d_X12_row_4 (by decide) o1 h (fun h => ?_) (fun h => ?_)
  · skip
    refine V_iconst C d_X12_row_25 ?_
    exact V_iret_w C hR d_X12_row_26 (okc rfl) h
  · skip
    refine V_iload_n (j := 2) C d_X12_row_7 rfl rfl ?_
    refine V_i2l C d_X12_row_8 o_x2 ?_
    refine V_lconst0 C d_X12_row_9 ?_
    refine V_ldc2 (v := 2) C d_X12_row_10 cl_X12_302 ?_
    refine V_callSri (K' := K_X12_isIn) (av := [jv_i x2, jv_i 0, jv_i 2]) (rest := []) ys_X12_isIn C (yk_X12_isIn) l1_X12_69 (by decide) d_X12_row_13 (fun v hv => ct_X12_isIn x2 0 2 o_x2 (okc rfl) (okc rfl) hv) rfl rfl (Nat.le_of_ble_eq_true rfl) h (fun v2 o2 h => ?_)
    refine V_if_eq (tgt := 25) C d_X12_row_16 (by decide) o2 h (fun h => ?_) (fun h => ?_)
    · skip
      refine V_iconst C d_X12_row_25 ?_
      exact V_iret_w C hR d_X12_row_26 (okc rfl) h
    · skip
      refine V_iload_n (j := 3) C d_X12_row_19 rfl rfl ?_
      refine V_bipush (v := 80) C d_X12_row_20 rfl ?_
      refine V_icmp_le (tgt := 27) C d_X12_row_22 (by decide) o_x3 (okc rfl) h (fun h => ?_) (fun h => ?_)
      · skip
        refine V_iload_n (j := 3) C d_X12_row_27 rfl rfl ?_
        refine V_if_ge (tgt := 34) C d_X12_row_28 (by decide) o_x3 h (fun h => ?_) (fun h => ?_)
        · skip
          refine V_bipush (v := (-14)) C d_X12_row_31 rfl ?_
          exact V_iret_w C hR d_X12_row_33 (okc rfl) h
        · skip
          refine V_aload_n (j := 0) C d_X12_row_34 rfl rfl ?_
          refine V_getR C ck_12 fw_X12_16 d_X12_row_35 h (fun v3 h => ?_)
          refine V_iload_n (j := 1) C d_X12_row_38 rfl rfl ?_
          refine V_iconst C d_X12_row_39 ?_
          refine V_iast C d_X12_row_40 o_x1 (okc rfl) h (fun M4 h => ?_)
          refine V_aload_n (j := 0) C d_X12_row_41 rfl rfl ?_
          refine V_getR C ck_12 fw_X12_19 d_X12_row_42 h (fun v5 h => ?_)
          refine V_iload_n (j := 1) C d_X12_row_45 rfl rfl ?_
          refine V_iload_n (j := 2) C d_X12_row_46 rfl rfl ?_
          refine V_iast C d_X12_row_47 o_x1 o_x2 h (fun M6 h => ?_)
          refine V_aload_n (j := 0) C d_X12_row_48 rfl rfl ?_
          refine V_getR C ck_12 fw_X12_22 d_X12_row_49 h (fun v7 h => ?_)
          refine V_iload_n (j := 1) C d_X12_row_52 rfl rfl ?_
          refine V_iload_n (j := 3) C d_X12_row_53 rfl rfl ?_
          refine V_iast C d_X12_row_54 o_x1 o_x3 h (fun M8 h => ?_)
          refine V_iconst C d_X12_row_55 ?_
          refine V_istore (lv' := [(4, iv_i 0), (0, .ref (G.1 + x0)), (1, iv_i x1), (2, iv_i x2), (3, iv_i x3)]) C d_X12_row_56 (by decide) rfl ?_
          refine V_lv [1, 2, 0] rfl (t_X12_row_58 C hR x0 x1 o_x1 FU_ M8 0 (okc rfl) h)
      · skip
        refine V_iconst C d_X12_row_25 ?_
        exact V_iret_w C hR d_X12_row_26 (okc rfl) h
set_option maxHeartbeats 4000000 in
set_option maxRecDepth 100000 in
theorem ct_X12_row {l : Launch} {G : GT_g} {M : Mem_m} (x0 : Nat) (x1 : Int) (x2 : Int) (x3 : Int) (o_x1 : ok_i x1) (o_x2 : ok_i x2) (o_x3 : ok_i x3) {z : (Mem_m × Int)} (h : f_X12_row G.2.2.2 M x0 x1 x2 x3 = some z) : MI_ l yX12_row K_X12_row (some .int) G M [.ref (G.1 + x0), iv_i x1, iv_i x2, iv_i x3] z.1 z.2 :=
  met_of (by decide +kernel) rfl (Nat.le_of_ble_eq_true rfl) (fun X hl C hR => by subst hl; exact t_X12_row C hR x0 x1 x2 x3 o_x1 o_x2 o_x3 h)
theorem d_X12_put_0 : decode cX12_put 0 = .ok (.aload_n 0, 1) := by decide +kernel
theorem d_X12_put_1 : decode cX12_put 1 = .ok (.iload_n 1, 1) := by decide +kernel
theorem d_X12_put_2 : decode cX12_put 2 = .ok (.iconst (-1), 1) := by decide +kernel
theorem d_X12_put_3 : decode cX12_put 3 = .ok (.invokevirtual 79, 3) := by decide +kernel
theorem d_X12_put_6 : decode cX12_put 6 = .ok (.istore 4, 2) := by decide +kernel
theorem d_X12_put_8 : decode cX12_put 8 = .ok (.iload 4, 2) := by decide +kernel
theorem d_X12_put_10 : decode cX12_put 10 = .ok (.ifCond .eq 6, 3) := by decide +kernel
theorem d_X12_put_13 : decode cX12_put 13 = .ok (.iload 4, 2) := by decide +kernel
theorem d_X12_put_15 : decode cX12_put 15 = .ok (.ireturn, 1) := by decide +kernel
theorem d_X12_put_16 : decode cX12_put 16 = .ok (.iload_n 2, 1) := by decide +kernel
theorem d_X12_put_17 : decode cX12_put 17 = .ok (.i2l, 1) := by decide +kernel
theorem d_X12_put_18 : decode cX12_put 18 = .ok (.lconst 0, 1) := by decide +kernel
theorem d_X12_put_19 : decode cX12_put 19 = .ok (.aload_n 0, 1) := by decide +kernel
theorem d_X12_put_20 : decode cX12_put 20 = .ok (.getfield 22, 3) := by decide +kernel
theorem d_X12_put_23 : decode cX12_put 23 = .ok (.iload_n 1, 1) := by decide +kernel
theorem d_X12_put_24 : decode cX12_put 24 = .ok (.iaload, 1) := by decide +kernel
theorem d_X12_put_25 : decode cX12_put 25 = .ok (.iconst 1, 1) := by decide +kernel
theorem d_X12_put_26 : decode cX12_put 26 = .ok (.isub, 1) := by decide +kernel
theorem d_X12_put_27 : decode cX12_put 27 = .ok (.i2l, 1) := by decide +kernel
theorem d_X12_put_28 : decode cX12_put 28 = .ok (.invokestatic 69, 3) := by decide +kernel
theorem d_X12_put_31 : decode cX12_put 31 = .ok (.ifCond .ne 6, 3) := by decide +kernel
theorem d_X12_put_34 : decode cX12_put 34 = .ok (.bipush (-13), 2) := by decide +kernel
theorem d_X12_put_36 : decode cX12_put 36 = .ok (.ireturn, 1) := by decide +kernel
theorem d_X12_put_37 : decode cX12_put 37 = .ok (.aload_n 0, 1) := by decide +kernel
theorem d_X12_put_38 : decode cX12_put 38 = .ok (.getfield 25, 3) := by decide +kernel
theorem d_X12_put_41 : decode cX12_put 41 = .ok (.bipush 80, 2) := by decide +kernel
theorem d_X12_put_43 : decode cX12_put 43 = .ok (.iload_n 1, 1) := by decide +kernel
theorem d_X12_put_44 : decode cX12_put 44 = .ok (.imul, 1) := by decide +kernel
theorem d_X12_put_45 : decode cX12_put 45 = .ok (.iload_n 2, 1) := by decide +kernel
theorem d_X12_put_46 : decode cX12_put 46 = .ok (.iadd, 1) := by decide +kernel
theorem d_X12_put_47 : decode cX12_put 47 = .ok (.aload_n 0, 1) := by decide +kernel
theorem d_X12_put_48 : decode cX12_put 48 = .ok (.getfield 19, 3) := by decide +kernel
theorem d_X12_put_51 : decode cX12_put 51 = .ok (.iload_n 1, 1) := by decide +kernel
theorem d_X12_put_52 : decode cX12_put 52 = .ok (.iaload, 1) := by decide +kernel
theorem d_X12_put_53 : decode cX12_put 53 = .ok (.ifCond .ne 8, 3) := by decide +kernel
theorem d_X12_put_56 : decode cX12_put 56 = .ok (.iload_n 3, 1) := by decide +kernel
theorem d_X12_put_57 : decode cX12_put 57 = .ok (.i2b, 1) := by decide +kernel
theorem d_X12_put_58 : decode cX12_put 58 = .ok (.goto 19, 3) := by decide +kernel
theorem d_X12_put_61 : decode cX12_put 61 = .ok (.aload_n 0, 1) := by decide +kernel
theorem d_X12_put_62 : decode cX12_put 62 = .ok (.getfield 19, 3) := by decide +kernel
theorem d_X12_put_65 : decode cX12_put 65 = .ok (.iload_n 1, 1) := by decide +kernel
theorem d_X12_put_66 : decode cX12_put 66 = .ok (.iaload, 1) := by decide +kernel
theorem d_X12_put_67 : decode cX12_put 67 = .ok (.iconst 1, 1) := by decide +kernel
theorem d_X12_put_68 : decode cX12_put 68 = .ok (.if_icmp .ne 8, 3) := by decide +kernel
theorem d_X12_put_71 : decode cX12_put 71 = .ok (.iload_n 3, 1) := by decide +kernel
theorem d_X12_put_72 : decode cX12_put 72 = .ok (.i2s, 1) := by decide +kernel
theorem d_X12_put_73 : decode cX12_put 73 = .ok (.goto 4, 3) := by decide +kernel
theorem d_X12_put_76 : decode cX12_put 76 = .ok (.iload_n 3, 1) := by decide +kernel
theorem d_X12_put_77 : decode cX12_put 77 = .ok (.iastore, 1) := by decide +kernel
theorem d_X12_put_78 : decode cX12_put 78 = .ok (.iconst 0, 1) := by decide +kernel
theorem d_X12_put_79 : decode cX12_put 79 = .ok (.ireturn, 1) := by decide +kernel
set_option maxHeartbeats 4000000 in
set_option maxRecDepth 100000 in
theorem t_X12_put {X : XT_x} {G : GT_g} {M : Mem_m} {z : (Mem_m × Int)} (C : Cx_ (K_X12_put) X G) (hR : Rx_ X G (some .int)) (x0 : Nat) (x1 : Int) (x2 : Int) (x3 : Int) (o_x1 : ok_i x1) (o_x2 : ok_i x2) (o_x3 : ok_i x3) (h : f_X12_put G.2.2.2 M x0 x1 x2 x3 = some z) : V_ (K_X12_put) X G (Fq_ X G (Qi_ G z.1 z.2)) M 0 [(0, .ref (G.1 + x0)), (1, iv_i x1), (2, iv_i x2), (3, iv_i x3)] [] := by
  unfold f_X12_put at h
  refine V_aload_n (j := 0) C d_X12_put_0 rfl rfl ?_
  refine V_iload_n (j := 1) C d_X12_put_1 rfl rfl ?_
  refine V_iconst C d_X12_put_2 ?_
  refine V_callVri (K' := K_X12_wrongRow) (a := x0) (ci := 12) (av := [iv_i x1, iv_i (-1)]) (rest := []) yi_X12_wrongRow (by decide) rfl C (yk_X12_wrongRow) l1_X12_79 (by decide) d_X12_put_3 (fun v hv => ct_X12_wrongRow x0 x1 (-1) o_x1 (okc rfl) hv) rfl rfl (Nat.le_of_ble_eq_true rfl) h (fun v1 o1 h => ?_)
  refine V_istore (lv' := [(4, iv_i v1), (0, .ref (G.1 + x0)), (1, iv_i x1), (2, iv_i x2), (3, iv_i x3)]) C d_X12_put_6 (by decide) rfl ?_
  refine V_iload (j := 0) C d_X12_put_8 rfl ?_
  refine V_if_eq (tgt := 16) C d_X12_put_10 (by decide) o1 h (fun h => ?_) (fun h => ?_)
  · skip
    refine V_iload_n (j := 3) C d_X12_put_16 rfl rfl ?_
    refine V_i2l C d_X12_put_17 o_x2 ?_
    refine V_lconst0 C d_X12_put_18 ?_
    refine V_aload_n (j := 1) C d_X12_put_19 rfl rfl ?_
    refine V_getR C ck_12 fw_X12_22 d_X12_put_20 h (fun v2 h => ?_)
    refine V_iload_n (j := 2) C d_X12_put_23 rfl rfl ?_
    refine V_iald C d_X12_put_24 o_x1 h (fun v3 o3 h => ?_)
    refine V_iconst C d_X12_put_25 ?_
    refine V_isub C d_X12_put_26 ?_
    refine V_i2l C d_X12_put_27 (ok_wr _) ?_
    refine V_callSri (K' := K_X12_isIn) (av := [jv_i x2, jv_i 0, jv_i (wr_i (v3 - 1))]) (rest := []) ys_X12_isIn C (yk_X12_isIn) l1_X12_69 (by decide) d_X12_put_28 (fun v hv => ct_X12_isIn x2 0 (wr_i (v3 - 1)) o_x2 (okc rfl) (ok_wr _) hv) rfl rfl (Nat.le_of_ble_eq_true rfl) h (fun v4 o4 h => ?_)
    refine V_if_ne (tgt := 37) C d_X12_put_31 (by decide) o4 h (fun h => ?_) (fun h => ?_)
    · skip
      refine V_bipush (v := (-13)) C d_X12_put_34 rfl ?_
      exact V_iret_w C hR d_X12_put_36 (okc rfl) h
    · skip
      refine V_aload_n (j := 1) C d_X12_put_37 rfl rfl ?_
      refine V_getR C ck_12 fw_X12_25 d_X12_put_38 h (fun v5 h => ?_)
      refine V_bipush (v := 80) C d_X12_put_41 rfl ?_
      refine V_iload_n (j := 2) C d_X12_put_43 rfl rfl ?_
      refine V_imul C d_X12_put_44 ?_
      refine V_iload_n (j := 3) C d_X12_put_45 rfl rfl ?_
      refine V_iadd C d_X12_put_46 ?_
      refine V_aload_n (j := 1) C d_X12_put_47 rfl rfl ?_
      refine V_getR C ck_12 fw_X12_19 d_X12_put_48 h (fun v6 h => ?_)
      refine V_iload_n (j := 2) C d_X12_put_51 rfl rfl ?_
      refine V_iald C d_X12_put_52 o_x1 h (fun v7 o7 h => ?_)
      refine V_if_ne (tgt := 61) C d_X12_put_53 (by decide) o7 h (fun h => ?_) (fun h => ?_)
      · skip
        refine V_iload_n (j := 4) C d_X12_put_56 rfl rfl ?_
        refine V_i2b C d_X12_put_57 ?_
        refine V_goto (tgt := 77) C d_X12_put_58 (by decide) ?_
        refine V_iast C d_X12_put_77 (ok_wr _) (ok_I _) h (fun M8 h => ?_)
        refine V_iconst C d_X12_put_78 ?_
        exact V_iret_w C hR d_X12_put_79 (okc rfl) h
      · skip
        refine V_aload_n (j := 1) C d_X12_put_61 rfl rfl ?_
        refine V_getR C ck_12 fw_X12_19 d_X12_put_62 h (fun v9 h => ?_)
        refine V_iload_n (j := 2) C d_X12_put_65 rfl rfl ?_
        refine V_iald C d_X12_put_66 o_x1 h (fun v10 o10 h => ?_)
        refine V_iconst C d_X12_put_67 ?_
        refine V_icmp_ne (tgt := 76) C d_X12_put_68 (by decide) o10 (okc rfl) h (fun h => ?_) (fun h => ?_)
        · skip
          refine V_iload_n (j := 4) C d_X12_put_71 rfl rfl ?_
          refine V_i2s C d_X12_put_72 ?_
          refine V_goto (tgt := 77) C d_X12_put_73 (by decide) ?_
          refine V_iast C d_X12_put_77 (ok_wr _) (ok_I _) h (fun M11 h => ?_)
          refine V_iconst C d_X12_put_78 ?_
          exact V_iret_w C hR d_X12_put_79 (okc rfl) h
        · skip
          refine V_iload_n (j := 4) C d_X12_put_76 rfl rfl ?_
          refine V_iast C d_X12_put_77 (ok_wr _) o_x3 h (fun M12 h => ?_)
          refine V_iconst C d_X12_put_78 ?_
          exact V_iret_w C hR d_X12_put_79 (okc rfl) h
  · skip
    refine V_iload (j := 0) C d_X12_put_13 rfl ?_
    exact V_iret_w C hR d_X12_put_15 o1 h
set_option maxHeartbeats 4000000 in
set_option maxRecDepth 100000 in
theorem ct_X12_put {l : Launch} {G : GT_g} {M : Mem_m} (x0 : Nat) (x1 : Int) (x2 : Int) (x3 : Int) (o_x1 : ok_i x1) (o_x2 : ok_i x2) (o_x3 : ok_i x3) {z : (Mem_m × Int)} (h : f_X12_put G.2.2.2 M x0 x1 x2 x3 = some z) : MI_ l yX12_put K_X12_put (some .int) G M [.ref (G.1 + x0), iv_i x1, iv_i x2, iv_i x3] z.1 z.2 :=
  met_of (by decide +kernel) rfl (Nat.le_of_ble_eq_true rfl) (fun X hl C hR => by subst hl; exact t_X12_put C hR x0 x1 x2 x3 o_x1 o_x2 o_x3 h)
theorem d_X12_element_0 : decode cX12_element 0 = .ok (.aload_n 0, 1) := by decide +kernel
theorem d_X12_element_1 : decode cX12_element 1 = .ok (.iload_n 1, 1) := by decide +kernel
theorem d_X12_element_2 : decode cX12_element 2 = .ok (.invokestatic 75, 3) := by decide +kernel
theorem d_X12_element_5 : decode cX12_element 5 = .ok (.ifCond .ne 7, 3) := by decide +kernel
theorem d_X12_element_8 : decode cX12_element 8 = .ok (.iconst 1, 1) := by decide +kernel
theorem d_X12_element_9 : decode cX12_element 9 = .ok (.goto 36, 3) := by decide +kernel
theorem d_X12_element_12 : decode cX12_element 12 = .ok (.aload_n 0, 1) := by decide +kernel
theorem d_X12_element_13 : decode cX12_element 13 = .ok (.getfield 16, 3) := by decide +kernel
theorem d_X12_element_16 : decode cX12_element 16 = .ok (.iload_n 1, 1) := by decide +kernel
theorem d_X12_element_17 : decode cX12_element 17 = .ok (.iaload, 1) := by decide +kernel
theorem d_X12_element_18 : decode cX12_element 18 = .ok (.iconst 2, 1) := by decide +kernel
theorem d_X12_element_19 : decode cX12_element 19 = .ok (.if_icmp .ne 21, 3) := by decide +kernel
theorem d_X12_element_22 : decode cX12_element 22 = .ok (.iload_n 2, 1) := by decide +kernel
theorem d_X12_element_23 : decode cX12_element 23 = .ok (.i2l, 1) := by decide +kernel
theorem d_X12_element_24 : decode cX12_element 24 = .ok (.lconst 0, 1) := by decide +kernel
theorem d_X12_element_25 : decode cX12_element 25 = .ok (.aload_n 0, 1) := by decide +kernel
theorem d_X12_element_26 : decode cX12_element 26 = .ok (.getfield 22, 3) := by decide +kernel
theorem d_X12_element_29 : decode cX12_element 29 = .ok (.iload_n 1, 1) := by decide +kernel
theorem d_X12_element_30 : decode cX12_element 30 = .ok (.iaload, 1) := by decide +kernel
theorem d_X12_element_31 : decode cX12_element 31 = .ok (.iconst 1, 1) := by decide +kernel
theorem d_X12_element_32 : decode cX12_element 32 = .ok (.isub, 1) := by decide +kernel
theorem d_X12_element_33 : decode cX12_element 33 = .ok (.i2l, 1) := by decide +kernel
theorem d_X12_element_34 : decode cX12_element 34 = .ok (.invokestatic 69, 3) := by decide +kernel
theorem d_X12_element_37 : decode cX12_element 37 = .ok (.ifCond .ne 7, 3) := by decide +kernel
theorem d_X12_element_40 : decode cX12_element 40 = .ok (.iconst 2, 1) := by decide +kernel
theorem d_X12_element_41 : decode cX12_element 41 = .ok (.goto 4, 3) := by decide +kernel
theorem d_X12_element_44 : decode cX12_element 44 = .ok (.iconst 0, 1) := by decide +kernel
theorem d_X12_element_45 : decode cX12_element 45 = .ok (.putfield 65, 3) := by decide +kernel
theorem d_X12_element_48 : decode cX12_element 48 = .ok (.aload_n 0, 1) := by decide +kernel
theorem d_X12_element_49 : decode cX12_element 49 = .ok (.getfield 65, 3) := by decide +kernel
theorem d_X12_element_52 : decode cX12_element 52 = .ok (.ifCond .ne 18, 3) := by decide +kernel
theorem d_X12_element_55 : decode cX12_element 55 = .ok (.aload_n 0, 1) := by decide +kernel
theorem d_X12_element_56 : decode cX12_element 56 = .ok (.getfield 25, 3) := by decide +kernel
theorem d_X12_element_59 : decode cX12_element 59 = .ok (.bipush 80, 2) := by decide +kernel
theorem d_X12_element_61 : decode cX12_element 61 = .ok (.iload_n 1, 1) := by decide +kernel
theorem d_X12_element_62 : decode cX12_element 62 = .ok (.imul, 1) := by decide +kernel
theorem d_X12_element_63 : decode cX12_element 63 = .ok (.iload_n 2, 1) := by decide +kernel
theorem d_X12_element_64 : decode cX12_element 64 = .ok (.iadd, 1) := by decide +kernel
theorem d_X12_element_65 : decode cX12_element 65 = .ok (.iaload, 1) := by decide +kernel
theorem d_X12_element_66 : decode cX12_element 66 = .ok (.i2l, 1) := by decide +kernel
theorem d_X12_element_67 : decode cX12_element 67 = .ok (.goto 4, 3) := by decide +kernel
theorem d_X12_element_70 : decode cX12_element 70 = .ok (.lconst 0, 1) := by decide +kernel
theorem d_X12_element_71 : decode cX12_element 71 = .ok (.lreturn, 1) := by decide +kernel
set_option maxHeartbeats 4000000 in
set_option maxRecDepth 100000 in
theorem t_X12_element_45 {X : XT_x} {G : GT_g} {z : (Mem_m × Int)} (C : Cx_ (K_X12_element) X G) (hR : Rx_ X G (some .long)) (M : Mem_m) (x0 : Nat) (x1 : Int) (x2 : Int) (s0 : Int) (s1 : Nat) (o_x1 : ok_i x1) (o_x2 : ok_i x2) (o_s0 : ok_i s0) (h : f_X12_element_45 G.2.2.2 M x0 x1 x2 s0 s1 = some z) : V_ (K_X12_element) X G (Fq_ X G (Ql_ G z.1 z.2)) M 45 [(0, .ref (G.1 + x0)), (1, iv_i x1), (2, iv_i x2)] [iv_i s0, .ref (G.1 + s1)] := by
  unfold f_X12_element_45 at h
  refine V_putI C ck_12 fw_X12_65 fp_12_9 d_X12_element_45 o_s0 h (fun M1 h => ?_)
  refine V_aload_n (j := 0) C d_X12_element_48 rfl rfl ?_
  refine V_getI C ck_12 fw_X12_65 d_X12_element_49 h (fun v2 o2 h => ?_)
  refine V_if_ne (tgt := 70) C d_X12_element_52 (by decide) o2 h (fun h => ?_) (fun h => ?_)
  · skip
    refine V_aload_n (j := 0) C d_X12_element_55 rfl rfl ?_
    refine V_getR C ck_12 fw_X12_25 d_X12_element_56 h (fun v3 h => ?_)
    refine V_bipush (v := 80) C d_X12_element_59 rfl ?_
    refine V_iload_n (j := 1) C d_X12_element_61 rfl rfl ?_
    refine V_imul C d_X12_element_62 ?_
    refine V_iload_n (j := 2) C d_X12_element_63 rfl rfl ?_
    refine V_iadd C d_X12_element_64 ?_
    refine V_iald C d_X12_element_65 (ok_wr _) h (fun v4 o4 h => ?_)
    refine V_i2l C d_X12_element_66 o4 ?_
    refine V_goto (tgt := 71) C d_X12_element_67 (by decide) ?_
    exact V_lret_w C hR d_X12_element_71 h
  · skip
    refine V_lconst0 C d_X12_element_70 ?_
    exact V_lret_w C hR d_X12_element_71 h
set_option maxHeartbeats 4000000 in
set_option maxRecDepth 100000 in
theorem t_X12_element_40 {X : XT_x} {G : GT_g} {z : (Mem_m × Int)} (C : Cx_ (K_X12_element) X G) (hR : Rx_ X G (some .long)) (M : Mem_m) (x0 : Nat) (x1 : Int) (x2 : Int) (s0 : Nat) (o_x1 : ok_i x1) (o_x2 : ok_i x2) (h : f_X12_element_40 G.2.2.2 M x0 x1 x2 s0 = some z) : V_ (K_X12_element) X G (Fq_ X G (Ql_ G z.1 z.2)) M 40 [(0, .ref (G.1 + x0)), (1, iv_i x1), (2, iv_i x2)] [.ref (G.1 + s0)] := by
  unfold f_X12_element_40 at h
  refine V_iconst C d_X12_element_40 ?_
  refine V_goto (tgt := 45) C d_X12_element_41 (by decide) ?_
  refine V_lv [0, 1, 2] rfl (t_X12_element_45 C hR M x0 x1 x2 2 s0 o_x1 o_x2 (okc rfl) h)
set_option maxHeartbeats 4000000 in
set_option maxRecDepth 100000 in
theorem t_X12_element {X : XT_x} {G : GT_g} {M : Mem_m} {z : (Mem_m × Int)} (C : Cx_ (K_X12_element) X G) (hR : Rx_ X G (some .long)) (x0 : Nat) (x1 : Int) (x2 : Int) (o_x1 : ok_i x1) (o_x2 : ok_i x2) (h : f_X12_element G.2.2.2 M x0 x1 x2 = some z) : V_ (K_X12_element) X G (Fq_ X G (Ql_ G z.1 z.2)) M 0 [(0, .ref (G.1 + x0)), (1, iv_i x1), (2, iv_i x2)] [] := by
  unfold f_X12_element at h
  refine V_aload_n (j := 0) C d_X12_element_0 rfl rfl ?_
  refine V_iload_n (j := 1) C d_X12_element_1 rfl rfl ?_
  refine V_callSri (K' := K_X12_isShelf) (av := [iv_i x1]) (rest := [.ref (G.1 + x0)]) ys_X12_isShelf C (yk_X12_isShelf) l1_X12_75 (by decide) d_X12_element_2 (fun v hv => ct_X12_isShelf x1 o_x1 hv) rfl rfl (Nat.le_of_ble_eq_true rfl) h (fun v1 o1 h => ?_)
  refine V_if_ne (tgt := 12) C d_X12_element_5 (by decide) o1 h (fun h => ?_) (fun h => ?_)
  · skip
    refine V_iconst C d_X12_element_8 ?_
    refine V_goto (tgt := 45) C d_X12_element_9 (by decide) ?_
    refine V_lv [0, 1, 2] rfl (t_X12_element_45 C hR M x0 x1 x2 1 x0 o_x1 o_x2 (okc rfl) h)
  · skip
    refine V_aload_n (j := 0) C d_X12_element_12 rfl rfl ?_
    refine V_getR C ck_12 fw_X12_16 d_X12_element_13 h (fun v2 h => ?_)
    refine V_iload_n (j := 1) C d_X12_element_16 rfl rfl ?_
    refine V_iald C d_X12_element_17 o_x1 h (fun v3 o3 h => ?_)
    refine V_iconst C d_X12_element_18 ?_
    refine V_icmp_ne (tgt := 40) C d_X12_element_19 (by decide) o3 (okc rfl) h (fun h => ?_) (fun h => ?_)
    · skip
      refine V_iload_n (j := 2) C d_X12_element_22 rfl rfl ?_
      refine V_i2l C d_X12_element_23 o_x2 ?_
      refine V_lconst0 C d_X12_element_24 ?_
      refine V_aload_n (j := 0) C d_X12_element_25 rfl rfl ?_
      refine V_getR C ck_12 fw_X12_22 d_X12_element_26 h (fun v4 h => ?_)
      refine V_iload_n (j := 1) C d_X12_element_29 rfl rfl ?_
      refine V_iald C d_X12_element_30 o_x1 h (fun v5 o5 h => ?_)
      refine V_iconst C d_X12_element_31 ?_
      refine V_isub C d_X12_element_32 ?_
      refine V_i2l C d_X12_element_33 (ok_wr _) ?_
      refine V_callSri (K' := K_X12_isIn) (av := [jv_i x2, jv_i 0, jv_i (wr_i (v5 - 1))]) (rest := [.ref (G.1 + x0)]) ys_X12_isIn C (yk_X12_isIn) l1_X12_69 (by decide) d_X12_element_34 (fun v hv => ct_X12_isIn x2 0 (wr_i (v5 - 1)) o_x2 (okc rfl) (ok_wr _) hv) rfl rfl (Nat.le_of_ble_eq_true rfl) h (fun v6 o6 h => ?_)
      refine V_if_ne (tgt := 44) C d_X12_element_37 (by decide) o6 h (fun h => ?_) (fun h => ?_)
      · skip
        refine V_lv [0, 1, 2] rfl (t_X12_element_40 C hR M x0 x1 x2 x0 o_x1 o_x2 h)
      · skip
        refine V_iconst C d_X12_element_44 ?_
        refine V_lv [0, 1, 2] rfl (t_X12_element_45 C hR M x0 x1 x2 0 x0 o_x1 o_x2 (okc rfl) h)
    · skip
      refine V_lv [0, 1, 2] rfl (t_X12_element_40 C hR M x0 x1 x2 x0 o_x1 o_x2 h)
set_option maxHeartbeats 4000000 in
set_option maxRecDepth 100000 in
theorem ct_X12_element {l : Launch} {G : GT_g} {M : Mem_m} (x0 : Nat) (x1 : Int) (x2 : Int) (o_x1 : ok_i x1) (o_x2 : ok_i x2) {z : (Mem_m × Int)} (h : f_X12_element G.2.2.2 M x0 x1 x2 = some z) : ML_ l yX12_element K_X12_element (some .long) G M [.ref (G.1 + x0), iv_i x1, iv_i x2] z.1 z.2 :=
  met_of (by decide +kernel) rfl (Nat.le_of_ble_eq_true rfl) (fun X hl C hR => by subst hl; exact t_X12_element C hR x0 x1 x2 o_x1 o_x2 h)
