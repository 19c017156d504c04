theorem d_X6_addOrder_0 : decode cX6_addOrder 0 = .ok (.iconst 0, 1) := by decide +kernel
theorem d_X6_addOrder_1 : decode cX6_addOrder 1 = .ok (.istore_n 2, 1) := by decide +kernel
theorem d_X6_addOrder_2 : decode cX6_addOrder 2 = .ok (.iload_n 2, 1) := by decide +kernel
theorem d_X6_addOrder_3 : decode cX6_addOrder 3 = .ok (.iconst 4, 1) := by decide +kernel
theorem d_X6_addOrder_4 : decode cX6_addOrder 4 = .ok (.if_icmp .ge 50, 3) := by decide +kernel
theorem d_X6_addOrder_7 : decode cX6_addOrder 7 = .ok (.iload_n 2, 1) := by decide +kernel
theorem d_X6_addOrder_8 : decode cX6_addOrder 8 = .ok (.iconst 1, 1) := by decide +kernel
theorem d_X6_addOrder_9 : decode cX6_addOrder 9 = .ok (.iadd, 1) := by decide +kernel
theorem d_X6_addOrder_10 : decode cX6_addOrder 10 = .ok (.istore_n 3, 1) := by decide +kernel
theorem d_X6_addOrder_11 : decode cX6_addOrder 11 = .ok (.iload_n 3, 1) := by decide +kernel
theorem d_X6_addOrder_12 : decode cX6_addOrder 12 = .ok (.iconst 4, 1) := by decide +kernel
theorem d_X6_addOrder_13 : decode cX6_addOrder 13 = .ok (.if_icmp .ge 35, 3) := by decide +kernel
theorem d_X6_addOrder_16 : decode cX6_addOrder 16 = .ok (.aload_n 0, 1) := by decide +kernel
theorem d_X6_addOrder_17 : decode cX6_addOrder 17 = .ok (.getfield 9, 3) := by decide +kernel
theorem d_X6_addOrder_20 : decode cX6_addOrder 20 = .ok (.aload_n 0, 1) := by decide +kernel
theorem d_X6_addOrder_21 : decode cX6_addOrder 21 = .ok (.getfield 15, 3) := by decide +kernel
theorem d_X6_addOrder_24 : decode cX6_addOrder 24 = .ok (.iload_n 2, 1) := by decide +kernel
theorem d_X6_addOrder_25 : decode cX6_addOrder 25 = .ok (.iaload, 1) := by decide +kernel
theorem d_X6_addOrder_26 : decode cX6_addOrder 26 = .ok (.iconst 4, 1) := by decide +kernel
theorem d_X6_addOrder_27 : decode cX6_addOrder 27 = .ok (.imul, 1) := by decide +kernel
theorem d_X6_addOrder_28 : decode cX6_addOrder 28 = .ok (.aload_n 0, 1) := by decide +kernel
theorem d_X6_addOrder_29 : decode cX6_addOrder 29 = .ok (.getfield 15, 3) := by decide +kernel
theorem d_X6_addOrder_32 : decode cX6_addOrder 32 = .ok (.iload_n 3, 1) := by decide +kernel
theorem d_X6_addOrder_33 : decode cX6_addOrder 33 = .ok (.iaload, 1) := by decide +kernel
theorem d_X6_addOrder_34 : decode cX6_addOrder 34 = .ok (.iadd, 1) := by decide +kernel
theorem d_X6_addOrder_35 : decode cX6_addOrder 35 = .ok (.dup2, 1) := by decide +kernel
theorem d_X6_addOrder_36 : decode cX6_addOrder 36 = .ok (.iaload, 1) := by decide +kernel
theorem d_X6_addOrder_37 : decode cX6_addOrder 37 = .ok (.iconst 1, 1) := by decide +kernel
theorem d_X6_addOrder_38 : decode cX6_addOrder 38 = .ok (.iload_n 1, 1) := by decide +kernel
theorem d_X6_addOrder_39 : decode cX6_addOrder 39 = .ok (.ishl, 1) := by decide +kernel
theorem d_X6_addOrder_40 : decode cX6_addOrder 40 = .ok (.ior, 1) := by decide +kernel
theorem d_X6_addOrder_41 : decode cX6_addOrder 41 = .ok (.iastore, 1) := by decide +kernel
theorem d_X6_addOrder_42 : decode cX6_addOrder 42 = .ok (.iinc 3 1, 3) := by decide +kernel
theorem d_X6_addOrder_45 : decode cX6_addOrder 45 = .ok (.goto (-34), 3) := by decide +kernel
theorem d_X6_addOrder_48 : decode cX6_addOrder 48 = .ok (.iinc 2 1, 3) := by decide +kernel
theorem d_X6_addOrder_51 : decode cX6_addOrder 51 = .ok (.goto (-49), 3) := by decide +kernel
theorem d_X6_addOrder_54 : decode cX6_addOrder 54 = .ok (.return_, 1) := by decide +kernel
set_option maxHeartbeats 4000000 in
set_option maxRecDepth 100000 in
theorem t_X6_addOrder_11 {X : XT_x} {G : GT_g} {z : Mem_m} (C : Cx_ (K_X6_addOrder) X G) (hR : Rx_ X G none) (x0 : Nat) (x1 : Int) (x2 : Int) (o_x1 : ok_i x1) (o_x2 : ok_i x2) (k_2 : Mem_m → Int → Option Mem_m) (hk_2 : ∀ (M : Mem_m) (x2 : Int) (o_x2 : ok_i x2), k_2 M x2 = some z → V_ (K_X6_addOrder) X G (Fq_ X G (Qv_ G z)) M 2 [(0, .ref (G.1 + x0)), (1, iv_i x1), (2, iv_i x2)] []) : ∀ (n : Nat) (M : Mem_m) (x3 : Int) (o_x3 : ok_i x3), f_X6_addOrder_11 G.2.2.2 k_2 x0 x1 x2 n M x3 = some z → V_ (K_X6_addOrder) X G (Fq_ X G (Qv_ G z)) M 11 [(0, .ref (G.1 + x0)), (1, iv_i x1), (2, iv_i x2), (3, iv_i x3)] [] := by
  intro n
  induction n with
  | zero => intro M x3 o_x3 h; exact absurd h (by simp [f_X6_addOrder_11])
  | succ n ih =>
    intro M x3 o_x3 h
    unfold f_X6_addOrder_11 at h
    refine V_iload_n (j := 3) C d_X6_addOrder_11 rfl rfl ?_
    refine V_iconst C d_X6_addOrder_12 ?_
    refine V_icmp_ge (tgt := 48) C d_X6_addOrder_13 (by decide) o_x3 (okc rfl) h (fun h => ?_) (fun h => ?_)
    · skip
      refine V_aload_n (j := 0) C d_X6_addOrder_16 rfl rfl ?_
      refine V_getR C ck_6 fw_X6_9 d_X6_addOrder_17 h (fun v1 h => ?_)
      refine V_aload_n (j := 0) C d_X6_addOrder_20 rfl rfl ?_
      refine V_getR C ck_6 fw_X6_15 d_X6_addOrder_21 h (fun v2 h => ?_)
      refine V_iload_n (j := 2) C d_X6_addOrder_24 rfl rfl ?_
      refine V_iald C d_X6_addOrder_25 o_x2 h (fun v3 o3 h => ?_)
      refine V_iconst C d_X6_addOrder_26 ?_
      refine V_imul C d_X6_addOrder_27 ?_
      refine V_aload_n (j := 0) C d_X6_addOrder_28 rfl rfl ?_
      refine V_getR C ck_6 fw_X6_15 d_X6_addOrder_29 h (fun v4 h => ?_)
      refine V_iload_n (j := 3) C d_X6_addOrder_32 rfl rfl ?_
      refine V_iald C d_X6_addOrder_33 o_x3 h (fun v5 o5 h => ?_)
      refine V_iadd C d_X6_addOrder_34 ?_
      refine V_dup2 C d_X6_addOrder_35 rfl rfl ?_
      refine V_iald C d_X6_addOrder_36 (ok_wr _) h (fun v6 o6 h => ?_)
      refine V_iconst C d_X6_addOrder_37 ?_
      refine V_iload_n (j := 1) C d_X6_addOrder_38 rfl rfl ?_
      refine V_ishl C d_X6_addOrder_39 ?_
      refine V_ior C d_X6_addOrder_40 ?_
      refine V_iast C d_X6_addOrder_41 (ok_wr _) (ok_I _) h (fun M7 h => ?_)
      refine V_iinc (j := 3) (lv' := [(3, iv_i (wr_i (x3 + 1))), (0, .ref (G.1 + x0)), (1, iv_i x1), (2, iv_i x2)]) C d_X6_addOrder_42 rfl (by decide) rfl ?_
      refine V_goto (tgt := 11) C d_X6_addOrder_45 (by decide) ?_
      refine V_lv [1, 2, 3, 0] rfl (ih M7 (wr_i (x3 + 1)) (ok_wr _) h)
    · skip
      refine V_iinc (j := 2) (lv' := [(2, iv_i (wr_i (x2 + 1))), (0, .ref (G.1 + x0)), (1, iv_i x1), (3, iv_i x3)]) C d_X6_addOrder_48 rfl (by decide) rfl ?_
      refine V_goto (tgt := 2) C d_X6_addOrder_51 (by decide) ?_
      refine V_lv [1, 2, 0] rfl (hk_2 M (wr_i (x2 + 1)) (ok_wr _) h)
set_option maxHeartbeats 4000000 in
set_option maxRecDepth 100000 in
theorem t_X6_addOrder_2 {X : XT_x} {G : GT_g} {z : Mem_m} (C : Cx_ (K_X6_addOrder) X G) (hR : Rx_ X G none) (x0 : Nat) (x1 : Int) (o_x1 : ok_i x1) : ∀ (n : Nat) (M : Mem_m) (x2 : Int) (o_x2 : ok_i x2), f_X6_addOrder_2 G.2.2.2 x0 x1 n M x2 = some z → V_ (K_X6_addOrder) X G (Fq_ X G (Qv_ G z)) M 2 [(0, .ref (G.1 + x0)), (1, iv_i x1), (2, iv_i x2)] [] := by
  intro n
  induction n with
  | zero => intro M x2 o_x2 h; exact absurd h (by simp [f_X6_addOrder_2])
  | succ n ih =>
    intro M x2 o_x2 h
    unfold f_X6_addOrder_2 at h
    refine V_iload_n (j := 2) C d_X6_addOrder_2 rfl rfl ?_
    refine V_iconst C d_X6_addOrder_3 ?_
    refine V_icmp_ge (tgt := 54) C d_X6_addOrder_4 (by decide) o_x2 (okc rfl) h (fun h => ?_) (fun h => ?_)
    · skip
      refine V_iload_n (j := 2) C d_X6_addOrder_7 rfl rfl ?_
      refine V_iconst C d_X6_addOrder_8 ?_
      refine V_iadd C d_X6_addOrder_9 ?_
      refine V_istore_n (lv' := [(3, iv_i (wr_i (x2 + 1))), (0, .ref (G.1 + x0)), (1, iv_i x1), (2, iv_i x2)]) C d_X6_addOrder_10 rfl (by decide) rfl ?_
      refine V_lv [1, 2, 3, 0] rfl (t_X6_addOrder_11 C hR x0 x1 x2 o_x1 o_x2 (fun M x2 => f_X6_addOrder_2 G.2.2.2 x0 x1 n M x2) (fun M x2 o_x2 h9 => ih M x2 o_x2 h9) FU_ M (wr_i (x2 + 1)) (ok_wr _) h)
    · skip
      exact V_vret C hR d_X6_addOrder_54 (Option.some.inj h)
set_option maxHeartbeats 4000000 in
set_option maxRecDepth 100000 in
theorem t_X6_addOrder {X : XT_x} {G : GT_g} {M : Mem_m} {z : Mem_m} (C : Cx_ (K_X6_addOrder) X G) (hR : Rx_ X G none) (x0 : Nat) (x1 : Int) (o_x1 : ok_i x1) (h : f_X6_addOrder G.2.2.2 M x0 x1 = some z) : V_ (K_X6_addOrder) X G (Fq_ X G (Qv_ G z)) M 0 [(0, .ref (G.1 + x0)), (1, iv_i x1)] [] := by
  unfold f_X6_addOrder at h
  refine V_iconst C d_X6_addOrder_0 ?_
  refine V_istore_n (lv' := [(2, iv_i 0), (0, .ref (G.1 + x0)), (1, iv_i x1)]) C d_X6_addOrder_1 rfl (by decide) rfl ?_
  refine V_lv [1, 2, 0] rfl (t_X6_addOrder_2 C hR x0 x1 o_x1 FU_ M 0 (okc rfl) h)
set_option maxHeartbeats 4000000 in
set_option maxRecDepth 100000 in
theorem ct_X6_addOrder {l : Launch} {G : GT_g} {M : Mem_m} (x0 : Nat) (x1 : Int) (o_x1 : ok_i x1) {z : Mem_m} (h : f_X6_addOrder G.2.2.2 M x0 x1 = some z) : MV_ l yX6_addOrder K_X6_addOrder none G M [.ref (G.1 + x0), iv_i x1] z :=
  met_of (by decide +kernel) rfl (Nat.le_of_ble_eq_true rfl) (fun X hl C hR => by subst hl; exact t_X6_addOrder C hR x0 x1 o_x1 h)
theorem d_X6_spell_0 : decode cX6_spell 0 = .ok (.iconst 0, 1) := by decide +kernel
theorem d_X6_spell_1 : decode cX6_spell 1 = .ok (.istore_n 3, 1) := by decide +kernel
theorem d_X6_spell_2 : decode cX6_spell 2 = .ok (.iload_n 3, 1) := by decide +kernel
theorem d_X6_spell_3 : decode cX6_spell 3 = .ok (.iload_n 2, 1) := by decide +kernel
theorem d_X6_spell_4 : decode cX6_spell 4 = .ok (.if_icmp .ge 26, 3) := by decide +kernel
theorem d_X6_spell_7 : decode cX6_spell 7 = .ok (.aload_n 0, 1) := by decide +kernel
theorem d_X6_spell_8 : decode cX6_spell 8 = .ok (.getfield 15, 3) := by decide +kernel
theorem d_X6_spell_11 : decode cX6_spell 11 = .ok (.iload_n 3, 1) := by decide +kernel
theorem d_X6_spell_12 : decode cX6_spell 12 = .ok (.iload_n 1, 1) := by decide +kernel
theorem d_X6_spell_13 : decode cX6_spell 13 = .ok (.iconst 2, 1) := by decide +kernel
theorem d_X6_spell_14 : decode cX6_spell 14 = .ok (.iload_n 2, 1) := by decide +kernel
theorem d_X6_spell_15 : decode cX6_spell 15 = .ok (.iconst 1, 1) := by decide +kernel
theorem d_X6_spell_16 : decode cX6_spell 16 = .ok (.isub, 1) := by decide +kernel
theorem d_X6_spell_17 : decode cX6_spell 17 = .ok (.iload_n 3, 1) := by decide +kernel
theorem d_X6_spell_18 : decode cX6_spell 18 = .ok (.isub, 1) := by decide +kernel
theorem d_X6_spell_19 : decode cX6_spell 19 = .ok (.imul, 1) := by decide +kernel
theorem d_X6_spell_20 : decode cX6_spell 20 = .ok (.ishr, 1) := by decide +kernel
theorem d_X6_spell_21 : decode cX6_spell 21 = .ok (.iconst 3, 1) := by decide +kernel
theorem d_X6_spell_22 : decode cX6_spell 22 = .ok (.iand, 1) := by decide +kernel
theorem d_X6_spell_23 : decode cX6_spell 23 = .ok (.iastore, 1) := by decide +kernel
theorem d_X6_spell_24 : decode cX6_spell 24 = .ok (.iinc 3 1, 3) := by decide +kernel
theorem d_X6_spell_27 : decode cX6_spell 27 = .ok (.goto (-25), 3) := by decide +kernel
theorem d_X6_spell_30 : decode cX6_spell 30 = .ok (.return_, 1) := by decide +kernel
set_option maxHeartbeats 4000000 in
set_option maxRecDepth 100000 in
theorem t_X6_spell_2 {X : XT_x} {G : GT_g} {z : Mem_m} (C : Cx_ (K_X6_spell) X G) (hR : Rx_ X G none) (x0 : Nat) (x1 : Int) (x2 : Int) (o_x1 : ok_i x1) (o_x2 : ok_i x2) : ∀ (n : Nat) (M : Mem_m) (x3 : Int) (o_x3 : ok_i x3), f_X6_spell_2 G.2.2.2 x0 x1 x2 n M x3 = some z → V_ (K_X6_spell) X G (Fq_ X G (Qv_ G z)) M 2 [(0, .ref (G.1 + x0)), (1, iv_i x1), (2, iv_i x2), (3, iv_i x3)] [] := by
  intro n
  induction n with
  | zero => intro M x3 o_x3 h; exact absurd h (by simp [f_X6_spell_2])
  | succ n ih =>
    intro M x3 o_x3 h
    unfold f_X6_spell_2 at h
    refine V_iload_n (j := 3) C d_X6_spell_2 rfl rfl ?_
    refine V_iload_n (j := 2) C d_X6_spell_3 rfl rfl ?_
    refine V_icmp_ge (tgt := 30) C d_X6_spell_4 (by decide) o_x3 o_x2 h (fun h => ?_) (fun h => ?_)
    · skip
      refine V_aload_n (j := 0) C d_X6_spell_7 rfl rfl ?_
      refine V_getR C ck_6 fw_X6_15 d_X6_spell_8 h (fun v1 h => ?_)
      refine V_iload_n (j := 3) C d_X6_spell_11 rfl rfl ?_
      refine V_iload_n (j := 1) C d_X6_spell_12 rfl rfl ?_
      refine V_iconst C d_X6_spell_13 ?_
      refine V_iload_n (j := 2) C d_X6_spell_14 rfl rfl ?_
      refine V_iconst C d_X6_spell_15 ?_
      refine V_isub C d_X6_spell_16 ?_
      refine V_iload_n (j := 3) C d_X6_spell_17 rfl rfl ?_
      refine V_isub C d_X6_spell_18 ?_
      refine V_imul C d_X6_spell_19 ?_
      refine V_ishr C d_X6_spell_20 ?_
      refine V_iconst C d_X6_spell_21 ?_
      refine V_iand C d_X6_spell_22 ?_
      refine V_iast C d_X6_spell_23 o_x3 (ok_I _) h (fun M2 h => ?_)
      refine V_iinc (j := 3) (lv' := [(3, iv_i (wr_i (x3 + 1))), (0, .ref (G.1 + x0)), (1, iv_i x1), (2, iv_i x2)]) C d_X6_spell_24 rfl (by decide) rfl ?_
      refine V_goto (tgt := 2) C d_X6_spell_27 (by decide) ?_
      refine V_lv [1, 2, 3, 0] rfl (ih M2 (wr_i (x3 + 1)) (ok_wr _) h)
    · skip
      exact V_vret C hR d_X6_spell_30 (Option.some.inj h)
set_option maxHeartbeats 4000000 in
set_option maxRecDepth 100000 in
theorem t_X6_spell {X : XT_x} {G : GT_g} {M : Mem_m} {z : Mem_m} (C : Cx_ (K_X6_spell) X G) (hR : Rx_ X G none) (x0 : Nat) (x1 : Int) (x2 : Int) (o_x1 : ok_i x1) (o_x2 : ok_i x2) (h : f_X6_spell G.2.2.2 M x0 x1 x2 = some z) : V_ (K_X6_spell) X G (Fq_ X G (Qv_ G z)) M 0 [(0, .ref (G.1 + x0)), (1, iv_i x1), (2, iv_i x2)] [] := by
  unfold f_X6_spell at h
  refine V_iconst C d_X6_spell_0 ?_
  refine V_istore_n (lv' := [(3, iv_i 0), (0, .ref (G.1 + x0)), (1, iv_i x1), (2, iv_i x2)]) C d_X6_spell_1 rfl (by decide) rfl ?_
  refine V_lv [1, 2, 3, 0] rfl (t_X6_spell_2 C hR x0 x1 x2 o_x1 o_x2 FU_ M 0 (okc rfl) h)
set_option maxHeartbeats 4000000 in
set_option maxRecDepth 100000 in
theorem ct_X6_spell {l : Launch} {G : GT_g} {M : Mem_m} (x0 : Nat) (x1 : Int) (x2 : Int) (o_x1 : ok_i x1) (o_x2 : ok_i x2) {z : Mem_m} (h : f_X6_spell G.2.2.2 M x0 x1 x2 = some z) : MV_ l yX6_spell K_X6_spell none G M [.ref (G.1 + x0), iv_i x1, iv_i x2] z :=
  met_of (by decide +kernel) rfl (Nat.le_of_ble_eq_true rfl) (fun X hl C hR => by subst hl; exact t_X6_spell C hR x0 x1 x2 o_x1 o_x2 h)
theorem d_X6_isSaying_0 : decode cX6_isSaying 0 = .ok (.iload_n 1, 1) := by decide +kernel
theorem d_X6_isSaying_1 : decode cX6_isSaying 1 = .ok (.iconst 1, 1) := by decide +kernel
theorem d_X6_isSaying_2 : decode cX6_isSaying 2 = .ok (.if_icmp .lt 8, 3) := by decide +kernel
theorem d_X6_isSaying_5 : decode cX6_isSaying 5 = .ok (.iload_n 1, 1) := by decide +kernel
theorem d_X6_isSaying_6 : decode cX6_isSaying 6 = .ok (.iconst 4, 1) := by decide +kernel
theorem d_X6_isSaying_7 : decode cX6_isSaying 7 = .ok (.if_icmp .le 5, 3) := by decide +kernel
theorem d_X6_isSaying_10 : decode cX6_isSaying 10 = .ok (.iconst 0, 1) := by decide +kernel
theorem d_X6_isSaying_11 : decode cX6_isSaying 11 = .ok (.ireturn, 1) := by decide +kernel
theorem d_X6_isSaying_12 : decode cX6_isSaying 12 = .ok (.iconst 0, 1) := by decide +kernel
theorem d_X6_isSaying_13 : decode cX6_isSaying 13 = .ok (.istore_n 2, 1) := by decide +kernel
theorem d_X6_isSaying_14 : decode cX6_isSaying 14 = .ok (.iconst 0, 1) := by decide +kernel
theorem d_X6_isSaying_15 : decode cX6_isSaying 15 = .ok (.istore_n 3, 1) := by decide +kernel
theorem d_X6_isSaying_16 : decode cX6_isSaying 16 = .ok (.iload_n 3, 1) := by decide +kernel
theorem d_X6_isSaying_17 : decode cX6_isSaying 17 = .ok (.iload_n 1, 1) := by decide +kernel
theorem d_X6_isSaying_18 : decode cX6_isSaying 18 = .ok (.if_icmp .ge 40, 3) := by decide +kernel
theorem d_X6_isSaying_21 : decode cX6_isSaying 21 = .ok (.aload_n 0, 1) := by decide +kernel
theorem d_X6_isSaying_22 : decode cX6_isSaying 22 = .ok (.iload_n 3, 1) := by decide +kernel
theorem d_X6_isSaying_23 : decode cX6_isSaying 23 = .ok (.iaload, 1) := by decide +kernel
theorem d_X6_isSaying_24 : decode cX6_isSaying 24 = .ok (.iconst 4, 1) := by decide +kernel
theorem d_X6_isSaying_25 : decode cX6_isSaying 25 = .ok (.invokestatic 30, 3) := by decide +kernel
theorem d_X6_isSaying_28 : decode cX6_isSaying 28 = .ok (.ifCond .eq 14, 3) := by decide +kernel
theorem d_X6_isSaying_31 : decode cX6_isSaying 31 = .ok (.iload_n 2, 1) := by decide +kernel
theorem d_X6_isSaying_32 : decode cX6_isSaying 32 = .ok (.aload_n 0, 1) := by decide +kernel
theorem d_X6_isSaying_33 : decode cX6_isSaying 33 = .ok (.iload_n 3, 1) := by decide +kernel
theorem d_X6_isSaying_34 : decode cX6_isSaying 34 = .ok (.iaload, 1) := by decide +kernel
theorem d_X6_isSaying_35 : decode cX6_isSaying 35 = .ok (.ishr, 1) := by decide +kernel
theorem d_X6_isSaying_36 : decode cX6_isSaying 36 = .ok (.iconst 1, 1) := by decide +kernel
theorem d_X6_isSaying_37 : decode cX6_isSaying 37 = .ok (.iand, 1) := by decide +kernel
theorem d_X6_isSaying_38 : decode cX6_isSaying 38 = .ok (.iconst 1, 1) := by decide +kernel
theorem d_X6_isSaying_39 : decode cX6_isSaying 39 = .ok (.if_icmp .ne 5, 3) := by decide +kernel
theorem d_X6_isSaying_42 : decode cX6_isSaying 42 = .ok (.iconst 0, 1) := by decide +kernel
theorem d_X6_isSaying_43 : decode cX6_isSaying 43 = .ok (.ireturn, 1) := by decide +kernel
theorem d_X6_isSaying_44 : decode cX6_isSaying 44 = .ok (.iload_n 2, 1) := by decide +kernel
theorem d_X6_isSaying_45 : decode cX6_isSaying 45 = .ok (.iconst 1, 1) := by decide +kernel
theorem d_X6_isSaying_46 : decode cX6_isSaying 46 = .ok (.aload_n 0, 1) := by decide +kernel
theorem d_X6_isSaying_47 : decode cX6_isSaying 47 = .ok (.iload_n 3, 1) := by decide +kernel
theorem d_X6_isSaying_48 : decode cX6_isSaying 48 = .ok (.iaload, 1) := by decide +kernel
theorem d_X6_isSaying_49 : decode cX6_isSaying 49 = .ok (.ishl, 1) := by decide +kernel
theorem d_X6_isSaying_50 : decode cX6_isSaying 50 = .ok (.ior, 1) := by decide +kernel
theorem d_X6_isSaying_51 : decode cX6_isSaying 51 = .ok (.istore_n 2, 1) := by decide +kernel
theorem d_X6_isSaying_52 : decode cX6_isSaying 52 = .ok (.iinc 3 1, 3) := by decide +kernel
theorem d_X6_isSaying_55 : decode cX6_isSaying 55 = .ok (.goto (-39), 3) := by decide +kernel
theorem d_X6_isSaying_58 : decode cX6_isSaying 58 = .ok (.iconst 1, 1) := by decide +kernel
theorem d_X6_isSaying_59 : decode cX6_isSaying 59 = .ok (.ireturn, 1) := by decide +kernel
set_option maxHeartbeats 4000000 in
set_option maxRecDepth 100000 in
theorem t_X6_isSaying_16 {X : XT_x} {G : GT_g} {z : Int} (C : Cx_ (K_X6_isSaying) X G) (hR : Rx_ X G (some .boolean)) (M : Mem_m) (x0 : Nat) (x1 : Int) (o_x1 : ok_i x1) : ∀ (n : Nat) (x2 : Int) (x3 : Int) (o_x2 : ok_i x2) (o_x3 : ok_i x3), f_X6_isSaying_16 G.2.2.2 M x0 x1 n x2 x3 = some z → V_ (K_X6_isSaying) X G (Fq_ X G (Qi_ G M z)) M 16 [(0, .ref (G.1 + x0)), (1, iv_i x1), (2, iv_i x2), (3, iv_i x3)] [] := by
  intro n
  induction n with
  | zero => intro x2 x3 o_x2 o_x3 h; exact absurd h (by simp [f_X6_isSaying_16])
  | succ n ih =>
    intro x2 x3 o_x2 o_x3 h
    unfold f_X6_isSaying_16 at h
    refine V_iload_n (j := 3) C d_X6_isSaying_16 rfl rfl ?_
    refine V_iload_n (j := 1) C d_X6_isSaying_17 rfl rfl ?_
    refine V_icmp_ge (tgt := 58) C d_X6_isSaying_18 (by decide) o_x3 o_x1 h (fun h => ?_) (fun h => ?_)
    · skip
      refine V_aload_n (j := 0) C d_X6_isSaying_21 rfl rfl ?_
      refine V_iload_n (j := 3) C d_X6_isSaying_22 rfl rfl ?_
      refine V_iald C d_X6_isSaying_23 o_x3 h (fun v1 o1 h => ?_)
      refine V_iconst C d_X6_isSaying_24 ?_
      refine V_callNri (K' := K_X11_isIn) (av := [iv_i v1, iv_i 4]) (rest := []) ys_X11_isIn C (yk_X11_isIn) l2_X6_30 (by decide) d_X6_isSaying_25 (fun v hv => ct_X11_isIn v1 4 o1 (okc rfl) hv) rfl rfl (Nat.le_of_ble_eq_true rfl) h (fun v2 o2 h => ?_)
      refine V_if_eq (tgt := 42) C d_X6_isSaying_28 (by decide) o2 h (fun h => ?_) (fun h => ?_)
      · skip
        refine V_iconst C d_X6_isSaying_42 ?_
        exact V_zret_r C hR d_X6_isSaying_43 (Or.inl rfl) h
      · skip
        refine V_iload_n (j := 2) C d_X6_isSaying_31 rfl rfl ?_
        refine V_aload_n (j := 0) C d_X6_isSaying_32 rfl rfl ?_
        refine V_iload_n (j := 3) C d_X6_isSaying_33 rfl rfl ?_
        refine V_iald C d_X6_isSaying_34 o_x3 h (fun v3 o3 h => ?_)
        refine V_ishr C d_X6_isSaying_35 ?_
        refine V_iconst C d_X6_isSaying_36 ?_
        refine V_iand C d_X6_isSaying_37 ?_
        refine V_iconst C d_X6_isSaying_38 ?_
        refine V_icmp_ne (tgt := 44) C d_X6_isSaying_39 (by decide) (ok_I _) (okc rfl) h (fun h => ?_) (fun h => ?_)
        · skip
          refine V_iconst C d_X6_isSaying_42 ?_
          exact V_zret_r C hR d_X6_isSaying_43 (Or.inl rfl) h
        · skip
          refine V_iload_n (j := 2) C d_X6_isSaying_44 rfl rfl ?_
          refine V_iconst C d_X6_isSaying_45 ?_
          refine V_aload_n (j := 0) C d_X6_isSaying_46 rfl rfl ?_
          refine V_iload_n (j := 3) C d_X6_isSaying_47 rfl rfl ?_
          refine V_iald C d_X6_isSaying_48 o_x3 h (fun v4 o4 h => ?_)
          refine V_ishl C d_X6_isSaying_49 ?_
          refine V_ior C d_X6_isSaying_50 ?_
          refine V_istore_n (lv' := [(2, iv_i (or_i x2 (sl_i 1 v4))), (0, .ref (G.1 + x0)), (1, iv_i x1), (3, iv_i x3)]) C d_X6_isSaying_51 rfl (by decide) rfl ?_
          refine V_iinc (j := 3) (lv' := [(3, iv_i (wr_i (x3 + 1))), (2, iv_i (or_i x2 (sl_i 1 v4))), (0, .ref (G.1 + x0)), (1, iv_i x1)]) C d_X6_isSaying_52 rfl (by decide) rfl ?_
          refine V_goto (tgt := 16) C d_X6_isSaying_55 (by decide) ?_
          refine V_lv [2, 3, 1, 0] rfl (ih (or_i x2 (sl_i 1 v4)) (wr_i (x3 + 1)) (ok_I _) (ok_wr _) h)
    · skip
      refine V_iconst C d_X6_isSaying_58 ?_
      exact V_zret_r C hR d_X6_isSaying_59 (Or.inr rfl) h
set_option maxHeartbeats 4000000 in
set_option maxRecDepth 100000 in
theorem t_X6_isSaying {X : XT_x} {G : GT_g} {M : Mem_m} {z : Int} (C : Cx_ (K_X6_isSaying) X G) (hR : Rx_ X G (some .boolean)) (x0 : Nat) (x1 : Int) (o_x1 : ok_i x1) (h : f_X6_isSaying G.2.2.2 M x0 x1 = some z) : V_ (K_X6_isSaying) X G (Fq_ X G (Qi_ G M z)) M 0 [(0, .ref (G.1 + x0)), (1, iv_i x1)] [] := by
  unfold f_X6_isSaying at h
  refine V_iload_n (j := 1) C d_X6_isSaying_0 rfl rfl ?_
  refine V_iconst C d_X6_isSaying_1 ?_
  refine V_icmp_lt (tgt := 10) C d_X6_isSaying_2 (by decide) o_x1 (okc rfl) h (fun h => ?_) (fun h => ?_)
  · skip
    refine V_iconst C d_X6_isSaying_10 ?_
    exact V_zret_r C hR d_X6_isSaying_11 (Or.inl rfl) h
  · skip
    refine V_iload_n (j := 1) C d_X6_isSaying_5 rfl rfl ?_
    refine V_iconst C d_X6_isSaying_6 ?_
    refine V_icmp_le (tgt := 12) C d_X6_isSaying_7 (by decide) o_x1 (okc rfl) h (fun h => ?_) (fun h => ?_)
    · skip
      refine V_iconst C d_X6_isSaying_12 ?_
      refine V_istore_n (lv' := [(2, iv_i 0), (0, .ref (G.1 + x0)), (1, iv_i x1)]) C d_X6_isSaying_13 rfl (by decide) rfl ?_
      refine V_iconst C d_X6_isSaying_14 ?_
      refine V_istore_n (lv' := [(3, iv_i 0), (2, iv_i 0), (0, .ref (G.1 + x0)), (1, iv_i x1)]) C d_X6_isSaying_15 rfl (by decide) rfl ?_
      refine V_lv [2, 3, 1, 0] rfl (t_X6_isSaying_16 C hR M x0 x1 o_x1 FU_ 0 0 (okc rfl) (okc rfl) h)
    · skip
      refine V_iconst C d_X6_isSaying_10 ?_
      exact V_zret_r C hR d_X6_isSaying_11 (Or.inl rfl) h
set_option maxHeartbeats 4000000 in
set_option maxRecDepth 100000 in
theorem ct_X6_isSaying {l : Launch} {G : GT_g} {M : Mem_m} (x0 : Nat) (x1 : Int) (o_x1 : ok_i x1) {z : Int} (h : f_X6_isSaying G.2.2.2 M x0 x1 = some z) : MI_ l yX6_isSaying K_X6_isSaying (some .boolean) G M [.ref (G.1 + x0), iv_i x1] M z :=
  met_of (by decide +kernel) rfl (Nat.le_of_ble_eq_true rfl) (fun X hl C hR => by subst hl; exact t_X6_isSaying C hR x0 x1 o_x1 h)
theorem d_X6_fitting_0 : decode cX6_fitting 0 = .ok (.ldc 34, 2) := by decide +kernel
theorem d_X6_fitting_2 : decode cX6_fitting 2 = .ok (.istore_n 3, 1) := by decide +kernel
theorem d_X6_fitting_3 : decode cX6_fitting 3 = .ok (.iconst 1, 1) := by decide +kernel
theorem d_X6_fitting_4 : decode cX6_fitting 4 = .ok (.istore 4, 2) := by decide +kernel
theorem d_X6_fitting_6 : decode cX6_fitting 6 = .ok (.iload 4, 2) := by decide +kernel
theorem d_X6_fitting_8 : decode cX6_fitting 8 = .ok (.iload_n 2, 1) := by decide +kernel
theorem d_X6_fitting_9 : decode cX6_fitting 9 = .ok (.if_icmp .ge 30, 3) := by decide +kernel
theorem d_X6_fitting_12 : decode cX6_fitting 12 = .ok (.iload_n 3, 1) := by decide +kernel
theorem d_X6_fitting_13 : decode cX6_fitting 13 = .ok (.aload_n 0, 1) := by decide +kernel
theorem d_X6_fitting_14 : decode cX6_fitting 14 = .ok (.getfield 9, 3) := by decide +kernel
theorem d_X6_fitting_17 : decode cX6_fitting 17 = .ok (.aload_n 1, 1) := by decide +kernel
theorem d_X6_fitting_18 : decode cX6_fitting 18 = .ok (.iload 4, 2) := by decide +kernel
theorem d_X6_fitting_20 : decode cX6_fitting 20 = .ok (.iconst 1, 1) := by decide +kernel
theorem d_X6_fitting_21 : decode cX6_fitting 21 = .ok (.isub, 1) := by decide +kernel
theorem d_X6_fitting_22 : decode cX6_fitting 22 = .ok (.iaload, 1) := by decide +kernel
theorem d_X6_fitting_23 : decode cX6_fitting 23 = .ok (.iconst 4, 1) := by decide +kernel
theorem d_X6_fitting_24 : decode cX6_fitting 24 = .ok (.imul, 1) := by decide +kernel
theorem d_X6_fitting_25 : decode cX6_fitting 25 = .ok (.aload_n 1, 1) := by decide +kernel
theorem d_X6_fitting_26 : decode cX6_fitting 26 = .ok (.iload 4, 2) := by decide +kernel
theorem d_X6_fitting_28 : decode cX6_fitting 28 = .ok (.iaload, 1) := by decide +kernel
theorem d_X6_fitting_29 : decode cX6_fitting 29 = .ok (.iadd, 1) := by decide +kernel
theorem d_X6_fitting_30 : decode cX6_fitting 30 = .ok (.iaload, 1) := by decide +kernel
theorem d_X6_fitting_31 : decode cX6_fitting 31 = .ok (.iand, 1) := by decide +kernel
theorem d_X6_fitting_32 : decode cX6_fitting 32 = .ok (.istore_n 3, 1) := by decide +kernel
theorem d_X6_fitting_33 : decode cX6_fitting 33 = .ok (.iinc 4 1, 3) := by decide +kernel
theorem d_X6_fitting_36 : decode cX6_fitting 36 = .ok (.goto (-30), 3) := by decide +kernel
theorem d_X6_fitting_39 : decode cX6_fitting 39 = .ok (.iload_n 3, 1) := by decide +kernel
theorem d_X6_fitting_40 : decode cX6_fitting 40 = .ok (.ireturn, 1) := by decide +kernel
set_option maxHeartbeats 4000000 in
set_option maxRecDepth 100000 in
theorem t_X6_fitting_6 {X : XT_x} {G : GT_g} {z : Int} (C : Cx_ (K_X6_fitting) X G) (hR : Rx_ X G (some .int)) (M : Mem_m) (x0 : Nat) (x1 : Nat) (x2 : Int) (o_x2 : ok_i x2) : ∀ (n : Nat) (x3 : Int) (x4 : Int) (o_x3 : ok_i x3) (o_x4 : ok_i x4), f_X6_fitting_6 G.2.2.2 M x0 x1 x2 n x3 x4 = some z → V_ (K_X6_fitting) X G (Fq_ X G (Qi_ G M z)) M 6 [(0, .ref (G.1 + x0)), (1, .ref (G.1 + x1)), (2, iv_i x2), (3, iv_i x3), (4, iv_i x4)] [] := by
  intro n
  induction n with
  | zero => intro x3 x4 o_x3 o_x4 h; exact absurd h (by simp [f_X6_fitting_6])
  | succ n ih =>
    intro x3 x4 o_x3 o_x4 h
    unfold f_X6_fitting_6 at h
    refine V_iload (j := 4) C d_X6_fitting_6 rfl ?_
    refine V_iload_n (j := 2) C d_X6_fitting_8 rfl rfl ?_
    refine V_icmp_ge (tgt := 39) C d_X6_fitting_9 (by decide) o_x4 o_x2 h (fun h => ?_) (fun h => ?_)
    · skip
      refine V_iload_n (j := 3) C d_X6_fitting_12 rfl rfl ?_
      refine V_aload_n (j := 0) C d_X6_fitting_13 rfl rfl ?_
      refine V_getR C ck_6 fw_X6_9 d_X6_fitting_14 h (fun v1 h => ?_)
      refine V_aload_n (j := 1) C d_X6_fitting_17 rfl rfl ?_
      refine V_iload (j := 4) C d_X6_fitting_18 rfl ?_
      refine V_iconst C d_X6_fitting_20 ?_
      refine V_isub C d_X6_fitting_21 ?_
      refine V_iald C d_X6_fitting_22 (ok_wr _) h (fun v2 o2 h => ?_)
      refine V_iconst C d_X6_fitting_23 ?_
      refine V_imul C d_X6_fitting_24 ?_
      refine V_aload_n (j := 1) C d_X6_fitting_25 rfl rfl ?_
      refine V_iload (j := 4) C d_X6_fitting_26 rfl ?_
      refine V_iald C d_X6_fitting_28 o_x4 h (fun v3 o3 h => ?_)
      refine V_iadd C d_X6_fitting_29 ?_
      refine V_iald C d_X6_fitting_30 (ok_wr _) h (fun v4 o4 h => ?_)
      refine V_iand C d_X6_fitting_31 ?_
      refine V_istore_n (lv' := [(3, iv_i (an_i x3 v4)), (0, .ref (G.1 + x0)), (1, .ref (G.1 + x1)), (2, iv_i x2), (4, iv_i x4)]) C d_X6_fitting_32 rfl (by decide) rfl ?_
      refine V_iinc (j := 4) (lv' := [(4, iv_i (wr_i (x4 + 1))), (3, iv_i (an_i x3 v4)), (0, .ref (G.1 + x0)), (1, .ref (G.1 + x1)), (2, iv_i x2)]) C d_X6_fitting_33 rfl (by decide) rfl ?_
      refine V_goto (tgt := 6) C d_X6_fitting_36 (by decide) ?_
      refine V_lv [2, 3, 4, 1, 0] rfl (ih (an_i x3 v4) (wr_i (x4 + 1)) (ok_I _) (ok_wr _) h)
    · skip
      refine V_iload_n (j := 3) C d_X6_fitting_39 rfl rfl ?_
      exact V_iret_r C hR d_X6_fitting_40 o_x3 h
set_option maxHeartbeats 4000000 in
set_option maxRecDepth 100000 in
theorem t_X6_fitting {X : XT_x} {G : GT_g} {M : Mem_m} {z : Int} (C : Cx_ (K_X6_fitting) X G) (hR : Rx_ X G (some .int)) (x0 : Nat) (x1 : Nat) (x2 : Int) (o_x2 : ok_i x2) (h : f_X6_fitting G.2.2.2 M x0 x1 x2 = some z) : V_ (K_X6_fitting) X G (Fq_ X G (Qi_ G M z)) M 0 [(0, .ref (G.1 + x0)), (1, .ref (G.1 + x1)), (2, iv_i x2)] [] := by
  unfold f_X6_fitting at h
  refine V_ldc (v := 16777215) C d_X6_fitting_0 cn_X6_34 ?_
  refine V_istore_n (lv' := [(3, iv_i 16777215), (0, .ref (G.1 + x0)), (1, .ref (G.1 + x1)), (2, iv_i x2)]) C d_X6_fitting_2 rfl (by decide) rfl ?_
  refine V_iconst C d_X6_fitting_3 ?_
  refine V_istore (lv' := [(4, iv_i 1), (3, iv_i 16777215), (0, .ref (G.1 + x0)), (1, .ref (G.1 + x1)), (2, iv_i x2)]) C d_X6_fitting_4 (by decide) rfl ?_
  refine V_lv [2, 3, 4, 1, 0] rfl (t_X6_fitting_6 C hR M x0 x1 x2 o_x2 FU_ 16777215 1 (okc rfl) (okc rfl) h)
set_option maxHeartbeats 4000000 in
set_option maxRecDepth 100000 in
theorem ct_X6_fitting {l : Launch} {G : GT_g} {M : Mem_m} (x0 : Nat) (x1 : Nat) (x2 : Int) (o_x2 : ok_i x2) {z : Int} (h : f_X6_fitting G.2.2.2 M x0 x1 x2 = some z) : MI_ l yX6_fitting K_X6_fitting (some .int) G M [.ref (G.1 + x0), .ref (G.1 + x1), iv_i x2] M z :=
  met_of (by decide +kernel) rfl (Nat.le_of_ble_eq_true rfl) (fun X hl C hR => by subst hl; exact t_X6_fitting C hR x0 x1 x2 o_x2 h)
theorem d_J6_bitCount_0f7a4_0 : decode cJ6_bitCount_0f7a4 0 = .ok (.iload_n 0, 1) := by decide +kernel
theorem d_J6_bitCount_0f7a4_1 : decode cJ6_bitCount_0f7a4 1 = .ok (.iload_n 0, 1) := by decide +kernel
theorem d_J6_bitCount_0f7a4_2 : decode cJ6_bitCount_0f7a4 2 = .ok (.iconst 1, 1) := by decide +kernel
theorem d_J6_bitCount_0f7a4_3 : decode cJ6_bitCount_0f7a4 3 = .ok (.iushr, 1) := by decide +kernel
theorem d_J6_bitCount_0f7a4_4 : decode cJ6_bitCount_0f7a4 4 = .ok (.ldc_w 265, 3) := by decide +kernel
theorem d_J6_bitCount_0f7a4_7 : decode cJ6_bitCount_0f7a4 7 = .ok (.iand, 1) := by decide +kernel
theorem d_J6_bitCount_0f7a4_8 : decode cJ6_bitCount_0f7a4 8 = .ok (.isub, 1) := by decide +kernel
theorem d_J6_bitCount_0f7a4_9 : decode cJ6_bitCount_0f7a4 9 = .ok (.istore_n 0, 1) := by decide +kernel
theorem d_J6_bitCount_0f7a4_10 : decode cJ6_bitCount_0f7a4 10 = .ok (.iload_n 0, 1) := by decide +kernel
theorem d_J6_bitCount_0f7a4_11 : decode cJ6_bitCount_0f7a4 11 = .ok (.ldc_w 266, 3) := by decide +kernel
theorem d_J6_bitCount_0f7a4_14 : decode cJ6_bitCount_0f7a4 14 = .ok (.iand, 1) := by decide +kernel
theorem d_J6_bitCount_0f7a4_15 : decode cJ6_bitCount_0f7a4 15 = .ok (.iload_n 0, 1) := by decide +kernel
theorem d_J6_bitCount_0f7a4_16 : decode cJ6_bitCount_0f7a4 16 = .ok (.iconst 2, 1) := by decide +kernel
theorem d_J6_bitCount_0f7a4_17 : decode cJ6_bitCount_0f7a4 17 = .ok (.iushr, 1) := by decide +kernel
theorem d_J6_bitCount_0f7a4_18 : decode cJ6_bitCount_0f7a4 18 = .ok (.ldc_w 266, 3) := by decide +kernel
theorem d_J6_bitCount_0f7a4_21 : decode cJ6_bitCount_0f7a4 21 = .ok (.iand, 1) := by decide +kernel
theorem d_J6_bitCount_0f7a4_22 : decode cJ6_bitCount_0f7a4 22 = .ok (.iadd, 1) := by decide +kernel
theorem d_J6_bitCount_0f7a4_23 : decode cJ6_bitCount_0f7a4 23 = .ok (.istore_n 0, 1) := by decide +kernel
theorem d_J6_bitCount_0f7a4_24 : decode cJ6_bitCount_0f7a4 24 = .ok (.iload_n 0, 1) := by decide +kernel
theorem d_J6_bitCount_0f7a4_25 : decode cJ6_bitCount_0f7a4 25 = .ok (.iload_n 0, 1) := by decide +kernel
theorem d_J6_bitCount_0f7a4_26 : decode cJ6_bitCount_0f7a4 26 = .ok (.iconst 4, 1) := by decide +kernel
theorem d_J6_bitCount_0f7a4_27 : decode cJ6_bitCount_0f7a4 27 = .ok (.iushr, 1) := by decide +kernel
theorem d_J6_bitCount_0f7a4_28 : decode cJ6_bitCount_0f7a4 28 = .ok (.iadd, 1) := by decide +kernel
theorem d_J6_bitCount_0f7a4_29 : decode cJ6_bitCount_0f7a4 29 = .ok (.ldc_w 267, 3) := by decide +kernel
theorem d_J6_bitCount_0f7a4_32 : decode cJ6_bitCount_0f7a4 32 = .ok (.iand, 1) := by decide +kernel
theorem d_J6_bitCount_0f7a4_33 : decode cJ6_bitCount_0f7a4 33 = .ok (.istore_n 0, 1) := by decide +kernel
theorem d_J6_bitCount_0f7a4_34 : decode cJ6_bitCount_0f7a4 34 = .ok (.iload_n 0, 1) := by decide +kernel
theorem d_J6_bitCount_0f7a4_35 : decode cJ6_bitCount_0f7a4 35 = .ok (.iload_n 0, 1) := by decide +kernel
theorem d_J6_bitCount_0f7a4_36 : decode cJ6_bitCount_0f7a4 36 = .ok (.bipush 8, 2) := by decide +kernel
theorem d_J6_bitCount_0f7a4_38 : decode cJ6_bitCount_0f7a4 38 = .ok (.iushr, 1) := by decide +kernel
theorem d_J6_bitCount_0f7a4_39 : decode cJ6_bitCount_0f7a4 39 = .ok (.iadd, 1) := by decide +kernel
theorem d_J6_bitCount_0f7a4_40 : decode cJ6_bitCount_0f7a4 40 = .ok (.istore_n 0, 1) := by decide +kernel
theorem d_J6_bitCount_0f7a4_41 : decode cJ6_bitCount_0f7a4 41 = .ok (.iload_n 0, 1) := by decide +kernel
theorem d_J6_bitCount_0f7a4_42 : decode cJ6_bitCount_0f7a4 42 = .ok (.iload_n 0, 1) := by decide +kernel
theorem d_J6_bitCount_0f7a4_43 : decode cJ6_bitCount_0f7a4 43 = .ok (.bipush 16, 2) := by decide +kernel
theorem d_J6_bitCount_0f7a4_45 : decode cJ6_bitCount_0f7a4 45 = .ok (.iushr, 1) := by decide +kernel
theorem d_J6_bitCount_0f7a4_46 : decode cJ6_bitCount_0f7a4 46 = .ok (.iadd, 1) := by decide +kernel
theorem d_J6_bitCount_0f7a4_47 : decode cJ6_bitCount_0f7a4 47 = .ok (.istore_n 0, 1) := by decide +kernel
theorem d_J6_bitCount_0f7a4_48 : decode cJ6_bitCount_0f7a4 48 = .ok (.iload_n 0, 1) := by decide +kernel
theorem d_J6_bitCount_0f7a4_49 : decode cJ6_bitCount_0f7a4 49 = .ok (.bipush 63, 2) := by decide +kernel
theorem d_J6_bitCount_0f7a4_51 : decode cJ6_bitCount_0f7a4 51 = .ok (.iand, 1) := by decide +kernel
theorem d_J6_bitCount_0f7a4_52 : decode cJ6_bitCount_0f7a4 52 = .ok (.ireturn, 1) := by decide +kernel
set_option maxHeartbeats 4000000 in
set_option maxRecDepth 100000 in
theorem t_J6_bitCount_0f7a4 {X : XT_x} {G : GT_g} {M : Mem_m} {z : Int} (C : Cx_ (K_J6_bitCount_0f7a4) X G) (hR : Rx_ X G (some .int)) (x0 : Int) (o_x0 : ok_i x0) (h : f_J6_bitCount_0f7a4 G.2.2.2 M x0 = some z) : V_ (K_J6_bitCount_0f7a4) X G (Fq_ X G (Qi_ G M z)) M 0 [(0, iv_i x0)] [] := by
  unfold f_J6_bitCount_0f7a4 at h
  refine V_iload_n (j := 0) C d_J6_bitCount_0f7a4_0 rfl rfl ?_
  refine V_iload_n (j := 0) C d_J6_bitCount_0f7a4_1 rfl rfl ?_
  refine V_iconst C d_J6_bitCount_0f7a4_2 ?_
  refine V_iushr C d_J6_bitCount_0f7a4_3 ?_
  refine V_ldcw (v := 1431655765) C d_J6_bitCount_0f7a4_4 cn_J6_265 ?_
  refine V_iand C d_J6_bitCount_0f7a4_7 ?_
  refine V_isub C d_J6_bitCount_0f7a4_8 ?_
  refine V_istore_n (lv' := [(0, iv_i (wr_i (x0 - (an_i (us_i x0 1) 1431655765))))]) C d_J6_bitCount_0f7a4_9 rfl (by decide) rfl ?_
  refine V_iload_n (j := 0) C d_J6_bitCount_0f7a4_10 rfl rfl ?_
  refine V_ldcw (v := 858993459) C d_J6_bitCount_0f7a4_11 cn_J6_266 ?_
  refine V_iand C d_J6_bitCount_0f7a4_14 ?_
  refine V_iload_n (j := 0) C d_J6_bitCount_0f7a4_15 rfl rfl ?_
  refine V_iconst C d_J6_bitCount_0f7a4_16 ?_
  refine V_iushr C d_J6_bitCount_0f7a4_17 ?_
  refine V_ldcw (v := 858993459) C d_J6_bitCount_0f7a4_18 cn_J6_266 ?_
  refine V_iand C d_J6_bitCount_0f7a4_21 ?_
  refine V_iadd C d_J6_bitCount_0f7a4_22 ?_
  refine V_istore_n (lv' := [(0, iv_i (wr_i ((an_i (wr_i (x0 - (an_i (us_i x0 1) 1431655765))) 858993459) + (an_i (us_i (wr_i (x0 - (an_i (us_i x0 1) 1431655765))) 2) 858993459))))]) C d_J6_bitCount_0f7a4_23 rfl (by decide) rfl ?_
  refine V_iload_n (j := 0) C d_J6_bitCount_0f7a4_24 rfl rfl ?_
  refine V_iload_n (j := 0) C d_J6_bitCount_0f7a4_25 rfl rfl ?_
  refine V_iconst C d_J6_bitCount_0f7a4_26 ?_
  refine V_iushr C d_J6_bitCount_0f7a4_27 ?_
  refine V_iadd C d_J6_bitCount_0f7a4_28 ?_
  refine V_ldcw (v := 252645135) C d_J6_bitCount_0f7a4_29 cn_J6_267 ?_
  refine V_iand C d_J6_bitCount_0f7a4_32 ?_
  refine V_istore_n (lv' := [(0, iv_i (an_i (wr_i ((wr_i ((an_i (wr_i (x0 - (an_i (us_i x0 1) 1431655765))) 858993459) + (an_i (us_i (wr_i (x0 - (an_i (us_i x0 1) 1431655765))) 2) 858993459))) + (us_i (wr_i ((an_i (wr_i (x0 - (an_i (us_i x0 1) 1431655765))) 858993459) + (an_i (us_i (wr_i (x0 - (an_i (us_i x0 1) 1431655765))) 2) 858993459))) 4))) 252645135))]) C d_J6_bitCount_0f7a4_33 rfl (by decide) rfl ?_
  refine V_iload_n (j := 0) C d_J6_bitCount_0f7a4_34 rfl rfl ?_
  refine V_iload_n (j := 0) C d_J6_bitCount_0f7a4_35 rfl rfl ?_
  refine V_bipush (v := 8) C d_J6_bitCount_0f7a4_36 rfl ?_
  refine V_iushr C d_J6_bitCount_0f7a4_38 ?_
  refine V_iadd C d_J6_bitCount_0f7a4_39 ?_
  refine V_istore_n (lv' := [(0, iv_i (wr_i ((an_i (wr_i ((wr_i ((an_i (wr_i (x0 - (an_i (us_i x0 1) 1431655765))) 858993459) + (an_i (us_i (wr_i (x0 - (an_i (us_i x0 1) 1431655765))) 2) 858993459))) + (us_i (wr_i ((an_i (wr_i (x0 - (an_i (us_i x0 1) 1431655765))) 858993459) + (an_i (us_i (wr_i (x0 - (an_i (us_i x0 1) 1431655765))) 2) 858993459))) 4))) 252645135) + (us_i (an_i (wr_i ((wr_i ((an_i (wr_i (x0 - (an_i (us_i x0 1) 1431655765))) 858993459) + (an_i (us_i (wr_i (x0 - (an_i (us_i x0 1) 1431655765))) 2) 858993459))) + (us_i (wr_i ((an_i (wr_i (x0 - (an_i (us_i x0 1) 1431655765))) 858993459) + (an_i (us_i (wr_i (x0 - (an_i (us_i x0 1) 1431655765))) 2) 858993459))) 4))) 252645135) 8))))]) C d_J6_bitCount_0f7a4_40 rfl (by decide) rfl ?_
  refine V_iload_n (j := 0) C d_J6_bitCount_0f7a4_41 rfl rfl ?_
  refine V_iload_n (j := 0) C d_J6_bitCount_0f7a4_42 rfl rfl ?_
  refine V_bipush (v := 16) C d_J6_bitCount_0f7a4_43 rfl ?_
  refine V_iushr C d_J6_bitCount_0f7a4_45 ?_
  refine V_iadd C d_J6_bitCount_0f7a4_46 ?_
  refine V_istore_n (lv' := [(0, iv_i (wr_i ((wr_i ((an_i (wr_i ((wr_i ((an_i (wr_i (x0 - (an_i (us_i x0 1) 1431655765))) 858993459) + (an_i (us_i (wr_i (x0 - (an_i (us_i x0 1) 1431655765))) 2) 858993459))) + (us_i (wr_i ((an_i (wr_i (x0 - (an_i (us_i x0 1) 1431655765))) 858993459) + (an_i (us_i (wr_i (x0 - (an_i (us_i x0 1) 1431655765))) 2) 858993459))) 4))) 252645135) + (us_i (an_i (wr_i ((wr_i ((an_i (wr_i (x0 - (an_i (us_i x0 1) 1431655765))) 858993459) + (an_i (us_i (wr_i (x0 - (an_i (us_i x0 1) 1431655765))) 2) 858993459))) + (us_i (wr_i ((an_i (wr_i (x0 - (an_i (us_i x0 1) 1431655765))) 858993459) + (an_i (us_i (wr_i (x0 - (an_i (us_i x0 1) 1431655765))) 2) 858993459))) 4))) 252645135) 8))) + (us_i (wr_i ((an_i (wr_i ((wr_i ((an_i (wr_i (x0 - (an_i (us_i x0 1) 1431655765))) 858993459) + (an_i (us_i (wr_i (x0 - (an_i (us_i x0 1) 1431655765))) 2) 858993459))) + (us_i (wr_i ((an_i (wr_i (x0 - (an_i (us_i x0 1) 1431655765))) 858993459) + (an_i (us_i (wr_i (x0 - (an_i (us_i x0 1) 1431655765))) 2) 858993459))) 4))) 252645135) + (us_i (an_i (wr_i ((wr_i ((an_i (wr_i (x0 - (an_i (us_i x0 1) 1431655765))) 858993459) + (an_i (us_i (wr_i (x0 - (an_i (us_i x0 1) 1431655765))) 2) 858993459))) + (us_i (wr_i ((an_i (wr_i (x0 - (an_i (us_i x0 1) 1431655765))) 858993459) + (an_i (us_i (wr_i (x0 - (an_i (us_i x0 1) 1431655765))) 2) 858993459))) 4))) 252645135) 8))) 16))))]) C d_J6_bitCount_0f7a4_47 rfl (by decide) rfl ?_
  refine V_iload_n (j := 0) C d_J6_bitCount_0f7a4_48 rfl rfl ?_
  refine V_bipush (v := 63) C d_J6_bitCount_0f7a4_49 rfl ?_
  refine V_iand C d_J6_bitCount_0f7a4_51 ?_
  exact V_iret_r C hR d_J6_bitCount_0f7a4_52 (ok_I _) h
set_option maxHeartbeats 4000000 in
set_option maxRecDepth 100000 in
theorem ct_J6_bitCount_0f7a4 {l : Launch} {G : GT_g} {M : Mem_m} (x0 : Int) (o_x0 : ok_i x0) {z : Int} (h : f_J6_bitCount_0f7a4 G.2.2.2 M x0 = some z) : MI_ l yJ6_bitCount_0f7a4 K_J6_bitCount_0f7a4 (some .int) G M [iv_i x0] M z :=
  met_of (by decide +kernel) rfl (Nat.le_of_ble_eq_true rfl) (fun X hl C hR => by subst hl; exact t_J6_bitCount_0f7a4 C hR x0 o_x0 h)
theorem d_X6_weigh_0 : decode cX6_weigh 0 = .ok (.iload_n 1, 1) := by decide +kernel
theorem d_X6_weigh_1 : decode cX6_weigh 1 = .ok (.aload_n 0, 1) := by decide +kernel
theorem d_X6_weigh_2 : decode cX6_weigh 2 = .ok (.aload_n 0, 1) := by decide +kernel
theorem d_X6_weigh_3 : decode cX6_weigh 3 = .ok (.getfield 15, 3) := by decide +kernel
theorem d_X6_weigh_6 : decode cX6_weigh 6 = .ok (.iload_n 2, 1) := by decide +kernel
theorem d_X6_weigh_7 : decode cX6_weigh 7 = .ok (.invokevirtual 42, 3) := by decide +kernel
theorem d_X6_weigh_10 : decode cX6_weigh 10 = .ok (.iand, 1) := by decide +kernel
theorem d_X6_weigh_11 : decode cX6_weigh 11 = .ok (.invokestatic 46, 3) := by decide +kernel
theorem d_X6_weigh_14 : decode cX6_weigh 14 = .ok (.istore_n 3, 1) := by decide +kernel
theorem d_X6_weigh_15 : decode cX6_weigh 15 = .ok (.iload_n 3, 1) := by decide +kernel
theorem d_X6_weigh_16 : decode cX6_weigh 16 = .ok (.iload_n 1, 1) := by decide +kernel
theorem d_X6_weigh_17 : decode cX6_weigh 17 = .ok (.invokestatic 46, 3) := by decide +kernel
theorem d_X6_weigh_20 : decode cX6_weigh 20 = .ok (.iload_n 3, 1) := by decide +kernel
theorem d_X6_weigh_21 : decode cX6_weigh 21 = .ok (.isub, 1) := by decide +kernel
theorem d_X6_weigh_22 : decode cX6_weigh 22 = .ok (.invokestatic 52, 3) := by decide +kernel
theorem d_X6_weigh_25 : decode cX6_weigh 25 = .ok (.istore 4, 2) := by decide +kernel
theorem d_X6_weigh_27 : decode cX6_weigh 27 = .ok (.iload 4, 2) := by decide +kernel
theorem d_X6_weigh_29 : decode cX6_weigh 29 = .ok (.aload_n 0, 1) := by decide +kernel
theorem d_X6_weigh_30 : decode cX6_weigh 30 = .ok (.getfield 35, 3) := by decide +kernel
theorem d_X6_weigh_33 : decode cX6_weigh 33 = .ok (.if_icmp .ge 50, 3) := by decide +kernel
theorem d_X6_weigh_36 : decode cX6_weigh 36 = .ok (.aload_n 0, 1) := by decide +kernel
theorem d_X6_weigh_37 : decode cX6_weigh 37 = .ok (.iload 4, 2) := by decide +kernel
theorem d_X6_weigh_39 : decode cX6_weigh 39 = .ok (.putfield 35, 3) := by decide +kernel
theorem d_X6_weigh_42 : decode cX6_weigh 42 = .ok (.aload_n 0, 1) := by decide +kernel
theorem d_X6_weigh_43 : decode cX6_weigh 43 = .ok (.iconst 0, 1) := by decide +kernel
theorem d_X6_weigh_44 : decode cX6_weigh 44 = .ok (.putfield 58, 3) := by decide +kernel
theorem d_X6_weigh_47 : decode cX6_weigh 47 = .ok (.iload_n 2, 1) := by decide +kernel
theorem d_X6_weigh_48 : decode cX6_weigh 48 = .ok (.iconst 1, 1) := by decide +kernel
theorem d_X6_weigh_49 : decode cX6_weigh 49 = .ok (.isub, 1) := by decide +kernel
theorem d_X6_weigh_50 : decode cX6_weigh 50 = .ok (.istore 5, 2) := by decide +kernel
theorem d_X6_weigh_52 : decode cX6_weigh 52 = .ok (.iload 5, 2) := by decide +kernel
theorem d_X6_weigh_54 : decode cX6_weigh 54 = .ok (.ifCond .lt 29, 3) := by decide +kernel
theorem d_X6_weigh_57 : decode cX6_weigh 57 = .ok (.aload_n 0, 1) := by decide +kernel
theorem d_X6_weigh_58 : decode cX6_weigh 58 = .ok (.aload_n 0, 1) := by decide +kernel
theorem d_X6_weigh_59 : decode cX6_weigh 59 = .ok (.getfield 58, 3) := by decide +kernel
theorem d_X6_weigh_62 : decode cX6_weigh 62 = .ok (.iconst 5, 1) := by decide +kernel
theorem d_X6_weigh_63 : decode cX6_weigh 63 = .ok (.imul, 1) := by decide +kernel
theorem d_X6_weigh_64 : decode cX6_weigh 64 = .ok (.aload_n 0, 1) := by decide +kernel
theorem d_X6_weigh_65 : decode cX6_weigh 65 = .ok (.getfield 15, 3) := by decide +kernel
theorem d_X6_weigh_68 : decode cX6_weigh 68 = .ok (.iload 5, 2) := by decide +kernel
theorem d_X6_weigh_70 : decode cX6_weigh 70 = .ok (.iaload, 1) := by decide +kernel
theorem d_X6_weigh_71 : decode cX6_weigh 71 = .ok (.iadd, 1) := by decide +kernel
theorem d_X6_weigh_72 : decode cX6_weigh 72 = .ok (.iconst 1, 1) := by decide +kernel
theorem d_X6_weigh_73 : decode cX6_weigh 73 = .ok (.iadd, 1) := by decide +kernel
theorem d_X6_weigh_74 : decode cX6_weigh 74 = .ok (.putfield 58, 3) := by decide +kernel
theorem d_X6_weigh_77 : decode cX6_weigh 77 = .ok (.iinc 5 (-1), 3) := by decide +kernel
theorem d_X6_weigh_80 : decode cX6_weigh 80 = .ok (.goto (-28), 3) := by decide +kernel
theorem d_X6_weigh_83 : decode cX6_weigh 83 = .ok (.return_, 1) := by decide +kernel
set_option maxHeartbeats 4000000 in
set_option maxRecDepth 100000 in
theorem t_X6_weigh_52 {X : XT_x} {G : GT_g} {z : Mem_m} (C : Cx_ (K_X6_weigh) X G) (hR : Rx_ X G none) (x0 : Nat) : ∀ (n : Nat) (M : Mem_m) (x5 : Int) (o_x5 : ok_i x5), f_X6_weigh_52 G.2.2.2 x0 n M x5 = some z → V_ (K_X6_weigh) X G (Fq_ X G (Qv_ G z)) M 52 [(0, .ref (G.1 + x0)), (5, iv_i x5)] [] := by
  intro n
  induction n with
  | zero => intro M x5 o_x5 h; exact absurd h (by simp [f_X6_weigh_52])
  | succ n ih =>
    intro M x5 o_x5 h
    unfold f_X6_weigh_52 at h
    refine V_iload (j := 1) C d_X6_weigh_52 rfl ?_
    refine V_if_lt (tgt := 83) C d_X6_weigh_54 (by decide) o_x5 h (fun h => ?_) (fun h => ?_)
    · skip
      exact V_vret C hR d_X6_weigh_83 (Option.some.inj h)
    · skip
      refine V_aload_n (j := 0) C d_X6_weigh_57 rfl rfl ?_
      refine V_aload_n (j := 0) C d_X6_weigh_58 rfl rfl ?_
      refine V_getI C ck_6 fw_X6_58 d_X6_weigh_59 h (fun v1 o1 h => ?_)
      refine V_iconst C d_X6_weigh_62 ?_
      refine V_imul C d_X6_weigh_63 ?_
      refine V_aload_n (j := 0) C d_X6_weigh_64 rfl rfl ?_
      refine V_getR C ck_6 fw_X6_15 d_X6_weigh_65 h (fun v2 h => ?_)
      refine V_iload (j := 1) C d_X6_weigh_68 rfl ?_
      refine V_iald C d_X6_weigh_70 o_x5 h (fun v3 o3 h => ?_)
      refine V_iadd C d_X6_weigh_71 ?_
      refine V_iconst C d_X6_weigh_72 ?_
      refine V_iadd C d_X6_weigh_73 ?_
      refine V_putI C ck_6 fw_X6_58 fp_6_2 d_X6_weigh_74 (ok_wr _) h (fun M4 h => ?_)
      refine V_iinc (j := 1) (lv' := [(5, iv_i (wr_i (x5 + (-1)))), (0, .ref (G.1 + x0))]) C d_X6_weigh_77 rfl (by decide) rfl ?_
      refine V_goto (tgt := 52) C d_X6_weigh_80 (by decide) ?_
      refine V_lv [1, 0] rfl (ih M4 (wr_i (x5 + (-1))) (ok_wr _) h)
set_option maxHeartbeats 4000000 in
set_option maxRecDepth 100000 in
theorem t_X6_weigh {X : XT_x} {G : GT_g} {M : Mem_m} {z : Mem_m} (C : Cx_ (K_X6_weigh) X G) (hR : Rx_ X G none) (x0 : Nat) (x1 : Int) (x2 : Int) (o_x1 : ok_i x1) (o_x2 : ok_i x2) (h : f_X6_weigh G.2.2.2 M x0 x1 x2 = some z) : V_ (K_X6_weigh) X G (Fq_ X G (Qv_ G z)) M 0 [(0, .ref (G.1 + x0)), (1, iv_i x1), (2, iv_i x2)] [] := by
  unfold f_X6_weigh at h
  refine V_iload_n (j := 1) C d_X6_weigh_0 rfl rfl ?_
  refine V_aload_n (j := 0) C d_X6_weigh_1 rfl rfl ?_
  refine V_aload_n (j := 0) C d_X6_weigh_2 rfl rfl ?_
  refine V_getR C ck_6 fw_X6_15 d_X6_weigh_3 h (fun v1 h => ?_)
  refine V_iload_n (j := 2) C d_X6_weigh_6 rfl rfl ?_
  refine V_callVri (K' := K_X6_fitting) (a := x0) (ci := 6) (av := [.ref (G.1 + v1), iv_i x2]) (rest := [iv_i x1]) yi_X6_fitting (by decide) rfl C (yk_X6_fitting) l1_X6_42 (by decide) d_X6_weigh_7 (fun v hv => ct_X6_fitting x0 v1 x2 o_x2 hv) rfl rfl (Nat.le_of_ble_eq_true rfl) h (fun v2 o2 h => ?_)
  refine V_iand C d_X6_weigh_10 ?_
  refine V_callSri (K' := K_J6_bitCount_0f7a4) (av := [iv_i (an_i x1 v2)]) (rest := []) ys_J6_bitCount_0f7a4 C (yk_J6_bitCount_0f7a4) l1_X6_46 (by decide) d_X6_weigh_11 (fun v hv => ct_J6_bitCount_0f7a4 (an_i x1 v2) (ok_I _) hv) rfl rfl (Nat.le_of_ble_eq_true rfl) h (fun v3 o3 h => ?_)
  refine V_istore_n (lv' := [(3, iv_i v3), (0, .ref (G.1 + x0)), (1, iv_i x1), (2, iv_i x2)]) C d_X6_weigh_14 rfl (by decide) rfl ?_
  refine V_iload_n (j := 0) C d_X6_weigh_15 rfl rfl ?_
  refine V_iload_n (j := 2) C d_X6_weigh_16 rfl rfl ?_
  refine V_callSri (K' := K_J6_bitCount_0f7a4) (av := [iv_i x1]) (rest := [iv_i v3]) ys_J6_bitCount_0f7a4 C (yk_J6_bitCount_0f7a4) l1_X6_46 (by decide) d_X6_weigh_17 (fun v hv => ct_J6_bitCount_0f7a4 x1 o_x1 hv) rfl rfl (Nat.le_of_ble_eq_true rfl) h (fun v4 o4 h => ?_)
  refine V_iload_n (j := 0) C d_X6_weigh_20 rfl rfl ?_
  refine V_isub C d_X6_weigh_21 ?_
  refine V_mmax C l1_X6_52 mm_max (by decide) (Nat.le_of_ble_eq_true rfl) d_X6_weigh_22 o3 (ok_wr _) ?_
  refine V_istore (lv' := [(4, iv_i (max v3 (wr_i (v4 - v3)))), (3, iv_i v3), (0, .ref (G.1 + x0)), (1, iv_i x1), (2, iv_i x2)]) C d_X6_weigh_25 (by decide) rfl ?_
  refine V_iload (j := 0) C d_X6_weigh_27 rfl ?_
  refine V_aload_n (j := 2) C d_X6_weigh_29 rfl rfl ?_
  refine V_getI C ck_6 fw_X6_35 d_X6_weigh_30 h (fun v6 o6 h => ?_)
  refine V_icmp_ge (tgt := 83) C d_X6_weigh_33 (by decide) (ok_max o3 (ok_wr _)) o6 h (fun h => ?_) (fun h => ?_)
  · skip
    refine V_aload_n (j := 2) C d_X6_weigh_36 rfl rfl ?_
    refine V_iload (j := 0) C d_X6_weigh_37 rfl ?_
    refine V_putI C ck_6 fw_X6_35 fp_6_3 d_X6_weigh_39 (ok_max o3 (ok_wr _)) h (fun M7 h => ?_)
    refine V_aload_n (j := 2) C d_X6_weigh_42 rfl rfl ?_
    refine V_iconst C d_X6_weigh_43 ?_
    refine V_putI C ck_6 fw_X6_58 fp_6_2 d_X6_weigh_44 (okc rfl) h (fun M8 h => ?_)
    refine V_iload_n (j := 4) C d_X6_weigh_47 rfl rfl ?_
    refine V_iconst C d_X6_weigh_48 ?_
    refine V_isub C d_X6_weigh_49 ?_
    refine V_istore (lv' := [(5, iv_i (wr_i (x2 - 1))), (4, iv_i (max v3 (wr_i (v4 - v3)))), (3, iv_i v3), (0, .ref (G.1 + x0)), (1, iv_i x1), (2, iv_i x2)]) C d_X6_weigh_50 (by decide) rfl ?_
    refine V_lv [3, 0] rfl (t_X6_weigh_52 C hR x0 FU_ M8 (wr_i (x2 - 1)) (ok_wr _) h)
  · skip
    exact V_vret C hR d_X6_weigh_83 (Option.some.inj h)
set_option maxHeartbeats 4000000 in
set_option maxRecDepth 100000 in
theorem ct_X6_weigh {l : Launch} {G : GT_g} {M : Mem_m} (x0 : Nat) (x1 : Int) (x2 : Int) (o_x1 : ok_i x1) (o_x2 : ok_i x2) {z : Mem_m} (h : f_X6_weigh G.2.2.2 M x0 x1 x2 = some z) : MV_ l yX6_weigh K_X6_weigh none G M [.ref (G.1 + x0), iv_i x1, iv_i x2] z :=
  met_of (by decide +kernel) rfl (Nat.le_of_ble_eq_true rfl) (fun X hl C hR => by subst hl; exact t_X6_weigh C hR x0 x1 x2 o_x1 o_x2 h)
theorem d_X6_findAsk_0 : decode cX6_findAsk 0 = .ok (.aload_n 0, 1) := by decide +kernel
theorem d_X6_findAsk_1 : decode cX6_findAsk 1 = .ok (.bipush 25, 2) := by decide +kernel
theorem d_X6_findAsk_3 : decode cX6_findAsk 3 = .ok (.putfield 35, 3) := by decide +kernel
theorem d_X6_findAsk_6 : decode cX6_findAsk 6 = .ok (.iconst 2, 1) := by decide +kernel
theorem d_X6_findAsk_7 : decode cX6_findAsk 7 = .ok (.istore_n 2, 1) := by decide +kernel
theorem d_X6_findAsk_8 : decode cX6_findAsk 8 = .ok (.iload_n 2, 1) := by decide +kernel
theorem d_X6_findAsk_9 : decode cX6_findAsk 9 = .ok (.iconst 4, 1) := by decide +kernel
theorem d_X6_findAsk_10 : decode cX6_findAsk 10 = .ok (.if_icmp .gt 49, 3) := by decide +kernel
theorem d_X6_findAsk_13 : decode cX6_findAsk 13 = .ok (.iconst 0, 1) := by decide +kernel
theorem d_X6_findAsk_14 : decode cX6_findAsk 14 = .ok (.istore_n 3, 1) := by decide +kernel
theorem d_X6_findAsk_15 : decode cX6_findAsk 15 = .ok (.iload_n 3, 1) := by decide +kernel
theorem d_X6_findAsk_16 : decode cX6_findAsk 16 = .ok (.iconst 1, 1) := by decide +kernel
theorem d_X6_findAsk_17 : decode cX6_findAsk 17 = .ok (.iconst 2, 1) := by decide +kernel
theorem d_X6_findAsk_18 : decode cX6_findAsk 18 = .ok (.iload_n 2, 1) := by decide +kernel
theorem d_X6_findAsk_19 : decode cX6_findAsk 19 = .ok (.imul, 1) := by decide +kernel
theorem d_X6_findAsk_20 : decode cX6_findAsk 20 = .ok (.ishl, 1) := by decide +kernel
theorem d_X6_findAsk_21 : decode cX6_findAsk 21 = .ok (.if_icmp .ge 32, 3) := by decide +kernel
theorem d_X6_findAsk_24 : decode cX6_findAsk 24 = .ok (.aload_n 0, 1) := by decide +kernel
theorem d_X6_findAsk_25 : decode cX6_findAsk 25 = .ok (.iload_n 3, 1) := by decide +kernel
theorem d_X6_findAsk_26 : decode cX6_findAsk 26 = .ok (.iload_n 2, 1) := by decide +kernel
theorem d_X6_findAsk_27 : decode cX6_findAsk 27 = .ok (.invokevirtual 18, 3) := by decide +kernel
theorem d_X6_findAsk_30 : decode cX6_findAsk 30 = .ok (.aload_n 0, 1) := by decide +kernel
theorem d_X6_findAsk_31 : decode cX6_findAsk 31 = .ok (.getfield 15, 3) := by decide +kernel
theorem d_X6_findAsk_34 : decode cX6_findAsk 34 = .ok (.iload_n 2, 1) := by decide +kernel
theorem d_X6_findAsk_35 : decode cX6_findAsk 35 = .ok (.invokestatic 22, 3) := by decide +kernel
theorem d_X6_findAsk_38 : decode cX6_findAsk 38 = .ok (.ifCond .eq 9, 3) := by decide +kernel
theorem d_X6_findAsk_41 : decode cX6_findAsk 41 = .ok (.aload_n 0, 1) := by decide +kernel
theorem d_X6_findAsk_42 : decode cX6_findAsk 42 = .ok (.iload_n 1, 1) := by decide +kernel
theorem d_X6_findAsk_43 : decode cX6_findAsk 43 = .ok (.iload_n 2, 1) := by decide +kernel
theorem d_X6_findAsk_44 : decode cX6_findAsk 44 = .ok (.invokevirtual 39, 3) := by decide +kernel
theorem d_X6_findAsk_47 : decode cX6_findAsk 47 = .ok (.iinc 3 1, 3) := by decide +kernel
theorem d_X6_findAsk_50 : decode cX6_findAsk 50 = .ok (.goto (-35), 3) := by decide +kernel
theorem d_X6_findAsk_53 : decode cX6_findAsk 53 = .ok (.iinc 2 1, 3) := by decide +kernel
theorem d_X6_findAsk_56 : decode cX6_findAsk 56 = .ok (.goto (-48), 3) := by decide +kernel
theorem d_X6_findAsk_59 : decode cX6_findAsk 59 = .ok (.return_, 1) := by decide +kernel
set_option maxHeartbeats 4000000 in
set_option maxRecDepth 100000 in
theorem t_X6_findAsk_15 {X : XT_x} {G : GT_g} {z : Mem_m} (C : Cx_ (K_X6_findAsk) X G) (hR : Rx_ X G none) (x0 : Nat) (x1 : Int) (x2 : Int) (o_x1 : ok_i x1) (o_x2 : ok_i x2) (k_8 : Mem_m → Int → Option Mem_m) (hk_8 : ∀ (M : Mem_m) (x2 : Int) (o_x2 : ok_i x2), k_8 M x2 = some z → V_ (K_X6_findAsk) X G (Fq_ X G (Qv_ G z)) M 8 [(0, .ref (G.1 + x0)), (1, iv_i x1), (2, iv_i x2)] []) : ∀ (n : Nat) (M : Mem_m) (x3 : Int) (o_x3 : ok_i x3), f_X6_findAsk_15 G.2.2.2 k_8 x0 x1 x2 n M x3 = some z → V_ (K_X6_findAsk) X G (Fq_ X G (Qv_ G z)) M 15 [(0, .ref (G.1 + x0)), (1, iv_i x1), (2, iv_i x2), (3, iv_i x3)] [] := by
  intro n
  induction n with
  | zero => intro M x3 o_x3 h; exact absurd h (by simp [f_X6_findAsk_15])
  | succ n ih =>
    intro M x3 o_x3 h
    unfold f_X6_findAsk_15 at h
    refine V_iload_n (j := 3) C d_X6_findAsk_15 rfl rfl ?_
    refine V_iconst C d_X6_findAsk_16 ?_
    refine V_iconst C d_X6_findAsk_17 ?_
    refine V_iload_n (j := 2) C d_X6_findAsk_18 rfl rfl ?_
    refine V_imul C d_X6_findAsk_19 ?_
    refine V_ishl C d_X6_findAsk_20 ?_
    refine V_icmp_ge (tgt := 53) C d_X6_findAsk_21 (by decide) o_x3 (ok_I _) h (fun h => ?_) (fun h => ?_)
    · skip
      refine V_aload_n (j := 0) C d_X6_findAsk_24 rfl rfl ?_
      refine V_iload_n (j := 3) C d_X6_findAsk_25 rfl rfl ?_
      refine V_iload_n (j := 2) C d_X6_findAsk_26 rfl rfl ?_
      refine V_callVwv (K' := K_X6_spell) (a := x0) (ci := 6) (av := [iv_i x3, iv_i x2]) (rest := []) yi_X6_spell (by decide) rfl C (yk_X6_spell) l1_X6_18 (by decide) d_X6_findAsk_27 (fun v hv => ct_X6_spell x0 x3 x2 o_x3 o_x2 hv) rfl rfl (Nat.le_of_ble_eq_true rfl) h (fun M1 h => ?_)
      refine V_aload_n (j := 0) C d_X6_findAsk_30 rfl rfl ?_
      refine V_getR C ck_6 fw_X6_15 d_X6_findAsk_31 h (fun v2 h => ?_)
      refine V_iload_n (j := 2) C d_X6_findAsk_34 rfl rfl ?_
      refine V_callSri (K' := K_X6_isSaying) (av := [.ref (G.1 + v2), iv_i x2]) (rest := []) ys_X6_isSaying C (yk_X6_isSaying) l1_X6_22 (by decide) d_X6_findAsk_35 (fun v hv => ct_X6_isSaying v2 x2 o_x2 hv) rfl rfl (Nat.le_of_ble_eq_true rfl) h (fun v3 o3 h => ?_)
      refine V_if_eq (tgt := 47) C d_X6_findAsk_38 (by decide) o3 h (fun h => ?_) (fun h => ?_)
      · skip
        refine V_iinc (j := 3) (lv' := [(3, iv_i (wr_i (x3 + 1))), (0, .ref (G.1 + x0)), (1, iv_i x1), (2, iv_i x2)]) C d_X6_findAsk_47 rfl (by decide) rfl ?_
        refine V_goto (tgt := 15) C d_X6_findAsk_50 (by decide) ?_
        refine V_lv [1, 2, 3, 0] rfl (ih M1 (wr_i (x3 + 1)) (ok_wr _) h)
      · skip
        refine V_aload_n (j := 0) C d_X6_findAsk_41 rfl rfl ?_
        refine V_iload_n (j := 1) C d_X6_findAsk_42 rfl rfl ?_
        refine V_iload_n (j := 2) C d_X6_findAsk_43 rfl rfl ?_
        refine V_callVwv (K' := K_X6_weigh) (a := x0) (ci := 6) (av := [iv_i x1, iv_i x2]) (rest := []) yi_X6_weigh (by decide) rfl C (yk_X6_weigh) l1_X6_39 (by decide) d_X6_findAsk_44 (fun v hv => ct_X6_weigh x0 x1 x2 o_x1 o_x2 hv) rfl rfl (Nat.le_of_ble_eq_true rfl) h (fun M4 h => ?_)
        refine V_iinc (j := 3) (lv' := [(3, iv_i (wr_i (x3 + 1))), (0, .ref (G.1 + x0)), (1, iv_i x1), (2, iv_i x2)]) C d_X6_findAsk_47 rfl (by decide) rfl ?_
        refine V_goto (tgt := 15) C d_X6_findAsk_50 (by decide) ?_
        refine V_lv [1, 2, 3, 0] rfl (ih M4 (wr_i (x3 + 1)) (ok_wr _) h)
    · skip
      refine V_iinc (j := 2) (lv' := [(2, iv_i (wr_i (x2 + 1))), (0, .ref (G.1 + x0)), (1, iv_i x1), (3, iv_i x3)]) C d_X6_findAsk_53 rfl (by decide) rfl ?_
      refine V_goto (tgt := 8) C d_X6_findAsk_56 (by decide) ?_
      refine V_lv [1, 2, 0] rfl (hk_8 M (wr_i (x2 + 1)) (ok_wr _) h)
set_option maxHeartbeats 4000000 in
set_option maxRecDepth 100000 in
theorem t_X6_findAsk_8 {X : XT_x} {G : GT_g} {z : Mem_m} (C : Cx_ (K_X6_findAsk) X G) (hR : Rx_ X G none) (x0 : Nat) (x1 : Int) (o_x1 : ok_i x1) : ∀ (n : Nat) (M : Mem_m) (x2 : Int) (o_x2 : ok_i x2), f_X6_findAsk_8 G.2.2.2 x0 x1 n M x2 = some z → V_ (K_X6_findAsk) X G (Fq_ X G (Qv_ G z)) M 8 [(0, .ref (G.1 + x0)), (1, iv_i x1), (2, iv_i x2)] [] := by
  intro n
  induction n with
  | zero => intro M x2 o_x2 h; exact absurd h (by simp [f_X6_findAsk_8])
  | succ n ih =>
    intro M x2 o_x2 h
    unfold f_X6_findAsk_8 at h
    refine V_iload_n (j := 2) C d_X6_findAsk_8 rfl rfl ?_
    refine V_iconst C d_X6_findAsk_9 ?_
    refine V_icmp_gt (tgt := 59) C d_X6_findAsk_10 (by decide) o_x2 (okc rfl) h (fun h => ?_) (fun h => ?_)
    · skip
      refine V_iconst C d_X6_findAsk_13 ?_
      refine V_istore_n (lv' := [(3, iv_i 0), (0, .ref (G.1 + x0)), (1, iv_i x1), (2, iv_i x2)]) C d_X6_findAsk_14 rfl (by decide) rfl ?_
      refine V_lv [1, 2, 3, 0] rfl (t_X6_findAsk_15 C hR x0 x1 x2 o_x1 o_x2 (fun M x2 => f_X6_findAsk_8 G.2.2.2 x0 x1 n M x2) (fun M x2 o_x2 h9 => ih M x2 o_x2 h9) FU_ M 0 (okc rfl) h)
    · skip
      exact V_vret C hR d_X6_findAsk_59 (Option.some.inj h)
set_option maxHeartbeats 4000000 in
set_option maxRecDepth 100000 in
theorem t_X6_findAsk {X : XT_x} {G : GT_g} {M : Mem_m} {z : Mem_m} (C : Cx_ (K_X6_findAsk) X G) (hR : Rx_ X G none) (x0 : Nat) (x1 : Int) (o_x1 : ok_i x1) (h : f_X6_findAsk G.2.2.2 M x0 x1 = some z) : V_ (K_X6_findAsk) X G (Fq_ X G (Qv_ G z)) M 0 [(0, .ref (G.1 + x0)), (1, iv_i x1)] [] := by
  unfold f_X6_findAsk at h
  refine V_aload_n (j := 0) C d_X6_findAsk_0 rfl rfl ?_
  refine V_bipush (v := 25) C d_X6_findAsk_1 rfl ?_
  refine V_putI C ck_6 fw_X6_35 fp_6_3 d_X6_findAsk_3 (okc rfl) h (fun M1 h => ?_)
  refine V_iconst C d_X6_findAsk_6 ?_
  refine V_istore_n (lv' := [(2, iv_i 2), (0, .ref (G.1 + x0)), (1, iv_i x1)]) C d_X6_findAsk_7 rfl (by decide) rfl ?_
  refine V_lv [1, 2, 0] rfl (t_X6_findAsk_8 C hR x0 x1 o_x1 FU_ M1 2 (okc rfl) h)
set_option maxHeartbeats 4000000 in
set_option maxRecDepth 100000 in
theorem ct_X6_findAsk {l : Launch} {G : GT_g} {M : Mem_m} (x0 : Nat) (x1 : Int) (o_x1 : ok_i x1) {z : Mem_m} (h : f_X6_findAsk G.2.2.2 M x0 x1 = some z) : MV_ l yX6_findAsk K_X6_findAsk none G M [.ref (G.1 + x0), iv_i x1] z :=
  met_of (by decide +kernel) rfl (Nat.le_of_ble_eq_true rfl) (fun X hl C hR => by subst hl; exact t_X6_findAsk C hR x0 x1 o_x1 h)
theorem d_X7_readSign_0 : decode cX7_readSign 0 = .ok (.aload_n 0, 1) := by decide +kernel
theorem d_X7_readSign_1 : decode cX7_readSign 1 = .ok (.getfield 24, 3) := by decide +kernel
theorem d_X7_readSign_4 : decode cX7_readSign 4 = .ok (.aload_n 1, 1) := by decide +kernel
theorem d_X7_readSign_5 : decode cX7_readSign 5 = .ok (.getfield 42, 3) := by decide +kernel
theorem d_X7_readSign_8 : decode cX7_readSign 8 = .ok (.if_icmp .ge 16, 3) := by decide +kernel
theorem d_X7_readSign_11 : decode cX7_readSign 11 = .ok (.aload_n 1, 1) := by decide +kernel
theorem d_X7_readSign_12 : decode cX7_readSign 12 = .ok (.getfield 47, 3) := by decide +kernel
theorem d_X7_readSign_15 : decode cX7_readSign 15 = .ok (.aload_n 0, 1) := by decide +kernel
theorem d_X7_readSign_16 : decode cX7_readSign 16 = .ok (.getfield 24, 3) := by decide +kernel
theorem d_X7_readSign_19 : decode cX7_readSign 19 = .ok (.iaload, 1) := by decide +kernel
theorem d_X7_readSign_20 : decode cX7_readSign 20 = .ok (.iload_n 2, 1) := by decide +kernel
theorem d_X7_readSign_21 : decode cX7_readSign 21 = .ok (.if_icmp .eq 5, 3) := by decide +kernel
theorem d_X7_readSign_24 : decode cX7_readSign 24 = .ok (.iconst 0, 1) := by decide +kernel
theorem d_X7_readSign_25 : decode cX7_readSign 25 = .ok (.ireturn, 1) := by decide +kernel
theorem d_X7_readSign_26 : decode cX7_readSign 26 = .ok (.aload_n 0, 1) := by decide +kernel
theorem d_X7_readSign_27 : decode cX7_readSign 27 = .ok (.dup, 1) := by decide +kernel
theorem d_X7_readSign_28 : decode cX7_readSign 28 = .ok (.getfield 24, 3) := by decide +kernel
theorem d_X7_readSign_31 : decode cX7_readSign 31 = .ok (.iconst 1, 1) := by decide +kernel
theorem d_X7_readSign_32 : decode cX7_readSign 32 = .ok (.iadd, 1) := by decide +kernel
theorem d_X7_readSign_33 : decode cX7_readSign 33 = .ok (.putfield 24, 3) := by decide +kernel
theorem d_X7_readSign_36 : decode cX7_readSign 36 = .ok (.iconst 1, 1) := by decide +kernel
theorem d_X7_readSign_37 : decode cX7_readSign 37 = .ok (.ireturn, 1) := by decide +kernel
set_option maxHeartbeats 4000000 in
set_option maxRecDepth 100000 in
theorem t_X7_readSign {X : XT_x} {G : GT_g} {M : Mem_m} {z : (Mem_m × Int)} (C : Cx_ (K_X7_readSign) X G) (hR : Rx_ X G (some .boolean)) (x0 : Nat) (x1 : Nat) (x2 : Int) (o_x2 : ok_i x2) (h : f_X7_readSign G.2.2.2 M x0 x1 x2 = some z) : V_ (K_X7_readSign) X G (Fq_ X G (Qi_ G z.1 z.2)) M 0 [(0, .ref (G.1 + x0)), (1, .ref (G.1 + x1)), (2, iv_i x2)] [] := by
  unfold f_X7_readSign at h
  refine V_aload_n (j := 0) C d_X7_readSign_0 rfl rfl ?_
  refine V_getI C ck_7 fw_X7_24 d_X7_readSign_1 h (fun v1 o1 h => ?_)
  refine V_aload_n (j := 1) C d_X7_readSign_4 rfl rfl ?_
  refine V_getI C ck_9 fw_X7_42 d_X7_readSign_5 h (fun v2 o2 h => ?_)
  refine V_icmp_ge (tgt := 24) C d_X7_readSign_8 (by decide) o1 o2 h (fun h => ?_) (fun h => ?_)
  · skip
    refine V_aload_n (j := 1) C d_X7_readSign_11 rfl rfl ?_
    refine V_getR C ck_9 fw_X7_47 d_X7_readSign_12 h (fun v3 h => ?_)
    refine V_aload_n (j := 0) C d_X7_readSign_15 rfl rfl ?_
    refine V_getI C ck_7 fw_X7_24 d_X7_readSign_16 h (fun v4 o4 h => ?_)
    refine V_iald C d_X7_readSign_19 o4 h (fun v5 o5 h => ?_)
    refine V_iload_n (j := 2) C d_X7_readSign_20 rfl rfl ?_
    refine V_icmp_eq (tgt := 26) C d_X7_readSign_21 (by decide) o5 o_x2 h (fun h => ?_) (fun h => ?_)
    · skip
      refine V_aload_n (j := 0) C d_X7_readSign_26 rfl rfl ?_
      refine V_dup C d_X7_readSign_27 rfl ?_
      refine V_getI C ck_7 fw_X7_24 d_X7_readSign_28 h (fun v6 o6 h => ?_)
      refine V_iconst C d_X7_readSign_31 ?_
      refine V_iadd C d_X7_readSign_32 ?_
      refine V_putI C ck_7 fw_X7_24 fp_7_4 d_X7_readSign_33 (ok_wr _) h (fun M7 h => ?_)
      refine V_iconst C d_X7_readSign_36 ?_
      exact V_zret_w C hR d_X7_readSign_37 (Or.inr rfl) h
    · skip
      refine V_iconst C d_X7_readSign_24 ?_
      exact V_zret_w C hR d_X7_readSign_25 (Or.inl rfl) h
  · skip
    refine V_iconst C d_X7_readSign_24 ?_
    exact V_zret_w C hR d_X7_readSign_25 (Or.inl rfl) h
set_option maxHeartbeats 4000000 in
set_option maxRecDepth 100000 in
theorem ct_X7_readSign {l : Launch} {G : GT_g} {M : Mem_m} (x0 : Nat) (x1 : Nat) (x2 : Int) (o_x2 : ok_i x2) {z : (Mem_m × Int)} (h : f_X7_readSign G.2.2.2 M x0 x1 x2 = some z) : MI_ l yX7_readSign K_X7_readSign (some .boolean) G M [.ref (G.1 + x0), .ref (G.1 + x1), iv_i x2] z.1 z.2 :=
  met_of (by decide +kernel) rfl (Nat.le_of_ble_eq_true rfl) (fun X hl C hR => by subst hl; exact t_X7_readSign C hR x0 x1 x2 o_x2 h)
theorem d_X7_readDigit_0 : decode cX7_readDigit 0 = .ok (.aload_n 0, 1) := by decide +kernel
theorem d_X7_readDigit_1 : decode cX7_readDigit 1 = .ok (.getfield 24, 3) := by decide +kernel
theorem d_X7_readDigit_4 : decode cX7_readDigit 4 = .ok (.aload_n 1, 1) := by decide +kernel
theorem d_X7_readDigit_5 : decode cX7_readDigit 5 = .ok (.getfield 42, 3) := by decide +kernel
theorem d_X7_readDigit_8 : decode cX7_readDigit 8 = .ok (.if_icmp .ge 22, 3) := by decide +kernel
theorem d_X7_readDigit_11 : decode cX7_readDigit 11 = .ok (.aload_n 1, 1) := by decide +kernel
theorem d_X7_readDigit_12 : decode cX7_readDigit 12 = .ok (.getfield 47, 3) := by decide +kernel
theorem d_X7_readDigit_15 : decode cX7_readDigit 15 = .ok (.aload_n 0, 1) := by decide +kernel
theorem d_X7_readDigit_16 : decode cX7_readDigit 16 = .ok (.getfield 24, 3) := by decide +kernel
theorem d_X7_readDigit_19 : decode cX7_readDigit 19 = .ok (.iaload, 1) := by decide +kernel
theorem d_X7_readDigit_20 : decode cX7_readDigit 20 = .ok (.bipush 48, 2) := by decide +kernel
theorem d_X7_readDigit_22 : decode cX7_readDigit 22 = .ok (.isub, 1) := by decide +kernel
theorem d_X7_readDigit_23 : decode cX7_readDigit 23 = .ok (.iload_n 2, 1) := by decide +kernel
theorem d_X7_readDigit_24 : decode cX7_readDigit 24 = .ok (.invokestatic 51, 3) := by decide +kernel
theorem d_X7_readDigit_27 : decode cX7_readDigit 27 = .ok (.ifCond .ne 5, 3) := by decide +kernel
theorem d_X7_readDigit_30 : decode cX7_readDigit 30 = .ok (.iconst (-1), 1) := by decide +kernel
theorem d_X7_readDigit_31 : decode cX7_readDigit 31 = .ok (.ireturn, 1) := by decide +kernel
theorem d_X7_readDigit_32 : decode cX7_readDigit 32 = .ok (.aload_n 0, 1) := by decide +kernel
theorem d_X7_readDigit_33 : decode cX7_readDigit 33 = .ok (.dup, 1) := by decide +kernel
theorem d_X7_readDigit_34 : decode cX7_readDigit 34 = .ok (.getfield 24, 3) := by decide +kernel
theorem d_X7_readDigit_37 : decode cX7_readDigit 37 = .ok (.iconst 1, 1) := by decide +kernel
theorem d_X7_readDigit_38 : decode cX7_readDigit 38 = .ok (.iadd, 1) := by decide +kernel
theorem d_X7_readDigit_39 : decode cX7_readDigit 39 = .ok (.putfield 24, 3) := by decide +kernel
theorem d_X7_readDigit_42 : decode cX7_readDigit 42 = .ok (.aload_n 1, 1) := by decide +kernel
theorem d_X7_readDigit_43 : decode cX7_readDigit 43 = .ok (.getfield 47, 3) := by decide +kernel
theorem d_X7_readDigit_46 : decode cX7_readDigit 46 = .ok (.aload_n 0, 1) := by decide +kernel
theorem d_X7_readDigit_47 : decode cX7_readDigit 47 = .ok (.getfield 24, 3) := by decide +kernel
theorem d_X7_readDigit_50 : decode cX7_readDigit 50 = .ok (.iconst 1, 1) := by decide +kernel
theorem d_X7_readDigit_51 : decode cX7_readDigit 51 = .ok (.isub, 1) := by decide +kernel
theorem d_X7_readDigit_52 : decode cX7_readDigit 52 = .ok (.iaload, 1) := by decide +kernel
theorem d_X7_readDigit_53 : decode cX7_readDigit 53 = .ok (.bipush 48, 2) := by decide +kernel
theorem d_X7_readDigit_55 : decode cX7_readDigit 55 = .ok (.isub, 1) := by decide +kernel
theorem d_X7_readDigit_56 : decode cX7_readDigit 56 = .ok (.ireturn, 1) := by decide +kernel
set_option maxHeartbeats 4000000 in
set_option maxRecDepth 100000 in
theorem t_X7_readDigit {X : XT_x} {G : GT_g} {M : Mem_m} {z : (Mem_m × Int)} (C : Cx_ (K_X7_readDigit) X G) (hR : Rx_ X G (some .int)) (x0 : Nat) (x1 : Nat) (x2 : Int) (o_x2 : ok_i x2) (h : f_X7_readDigit G.2.2.2 M x0 x1 x2 = some z) : V_ (K_X7_readDigit) X G (Fq_ X G (Qi_ G z.1 z.2)) M 0 [(0, .ref (G.1 + x0)), (1, .ref (G.1 + x1)), (2, iv_i x2)] [] := by
  unfold f_X7_readDigit at h
  refine V_aload_n (j := 0) C d_X7_readDigit_0 rfl rfl ?_
  refine V_getI C ck_7 fw_X7_24 d_X7_readDigit_1 h (fun v1 o1 h => ?_)
  refine V_aload_n (j := 1) C d_X7_readDigit_4 rfl rfl ?_
  refine V_getI C ck_9 fw_X7_42 d_X7_readDigit_5 h (fun v2 o2 h => ?_)
  refine V_icmp_ge (tgt := 30) C d_X7_readDigit_8 (by decide) o1 o2 h (fun h => ?_) (fun h => ?_)
  · skip
    refine V_aload_n (j := 1) C d_X7_readDigit_11 rfl rfl ?_
    refine V_getR C ck_9 fw_X7_47 d_X7_readDigit_12 h (fun v3 h => ?_)
    refine V_aload_n (j := 0) C d_X7_readDigit_15 rfl rfl ?_
    refine V_getI C ck_7 fw_X7_24 d_X7_readDigit_16 h (fun v4 o4 h => ?_)
    refine V_iald C d_X7_readDigit_19 o4 h (fun v5 o5 h => ?_)
    refine V_bipush (v := 48) C d_X7_readDigit_20 rfl ?_
    refine V_isub C d_X7_readDigit_22 ?_
    refine V_iload_n (j := 2) C d_X7_readDigit_23 rfl rfl ?_
    refine V_callNri (K' := K_X11_isIn) (av := [iv_i (wr_i (v5 - 48)), iv_i x2]) (rest := []) ys_X11_isIn C (yk_X11_isIn) l2_X7_51 (by decide) d_X7_readDigit_24 (fun v hv => ct_X11_isIn (wr_i (v5 - 48)) x2 (ok_wr _) o_x2 hv) rfl rfl (Nat.le_of_ble_eq_true rfl) h (fun v6 o6 h => ?_)
    refine V_if_ne (tgt := 32) C d_X7_readDigit_27 (by decide) o6 h (fun h => ?_) (fun h => ?_)
    · skip
      refine V_iconst C d_X7_readDigit_30 ?_
      exact V_iret_w C hR d_X7_readDigit_31 (okc rfl) h
    · skip
      refine V_aload_n (j := 0) C d_X7_readDigit_32 rfl rfl ?_
      refine V_dup C d_X7_readDigit_33 rfl ?_
      refine V_getI C ck_7 fw_X7_24 d_X7_readDigit_34 h (fun v7 o7 h => ?_)
      refine V_iconst C d_X7_readDigit_37 ?_
      refine V_iadd C d_X7_readDigit_38 ?_
      refine V_putI C ck_7 fw_X7_24 fp_7_4 d_X7_readDigit_39 (ok_wr _) h (fun M8 h => ?_)
      refine V_aload_n (j := 1) C d_X7_readDigit_42 rfl rfl ?_
      refine V_getR C ck_9 fw_X7_47 d_X7_readDigit_43 h (fun v9 h => ?_)
      refine V_aload_n (j := 0) C d_X7_readDigit_46 rfl rfl ?_
      refine V_getI C ck_7 fw_X7_24 d_X7_readDigit_47 h (fun v10 o10 h => ?_)
      refine V_iconst C d_X7_readDigit_50 ?_
      refine V_isub C d_X7_readDigit_51 ?_
      refine V_iald C d_X7_readDigit_52 (ok_wr _) h (fun v11 o11 h => ?_)
      refine V_bipush (v := 48) C d_X7_readDigit_53 rfl ?_
      refine V_isub C d_X7_readDigit_55 ?_
      exact V_iret_w C hR d_X7_readDigit_56 (ok_wr _) h
  · skip
    refine V_iconst C d_X7_readDigit_30 ?_
    exact V_iret_w C hR d_X7_readDigit_31 (okc rfl) h
set_option maxHeartbeats 4000000 in
set_option maxRecDepth 100000 in
theorem ct_X7_readDigit {l : Launch} {G : GT_g} {M : Mem_m} (x0 : Nat) (x1 : Nat) (x2 : Int) (o_x2 : ok_i x2) {z : (Mem_m × Int)} (h : f_X7_readDigit G.2.2.2 M x0 x1 x2 = some z) : MI_ l yX7_readDigit K_X7_readDigit (some .int) G M [.ref (G.1 + x0), .ref (G.1 + x1), iv_i x2] z.1 z.2 :=
  met_of (by decide +kernel) rfl (Nat.le_of_ble_eq_true rfl) (fun X hl C hR => by subst hl; exact t_X7_readDigit C hR x0 x1 x2 o_x2 h)
theorem d_X7_readSoundOrClass_0 : decode cX7_readSoundOrClass 0 = .ok (.aload_n 0, 1) := by decide +kernel
theorem d_X7_readSoundOrClass_1 : decode cX7_readSoundOrClass 1 = .ok (.aload_n 1, 1) := by decide +kernel
theorem d_X7_readSoundOrClass_2 : decode cX7_readSoundOrClass 2 = .ok (.bipush 67, 2) := by decide +kernel
theorem d_X7_readSoundOrClass_4 : decode cX7_readSoundOrClass 4 = .ok (.invokevirtual 31, 3) := by decide +kernel
theorem d_X7_readSoundOrClass_7 : decode cX7_readSoundOrClass 7 = .ok (.ifCond .ne 11, 3) := by decide +kernel
theorem d_X7_readSoundOrClass_10 : decode cX7_readSoundOrClass 10 = .ok (.aload_n 0, 1) := by decide +kernel
theorem d_X7_readSoundOrClass_11 : decode cX7_readSoundOrClass 11 = .ok (.aload_n 1, 1) := by decide +kernel
theorem d_X7_readSoundOrClass_12 : decode cX7_readSoundOrClass 12 = .ok (.bipush 10, 2) := by decide +kernel
theorem d_X7_readSoundOrClass_14 : decode cX7_readSoundOrClass 14 = .ok (.invokevirtual 35, 3) := by decide +kernel
theorem d_X7_readSoundOrClass_17 : decode cX7_readSoundOrClass 17 = .ok (.ireturn, 1) := by decide +kernel
theorem d_X7_readSoundOrClass_18 : decode cX7_readSoundOrClass 18 = .ok (.aload_n 0, 1) := by decide +kernel
theorem d_X7_readSoundOrClass_19 : decode cX7_readSoundOrClass 19 = .ok (.aload_n 1, 1) := by decide +kernel
theorem d_X7_readSoundOrClass_20 : decode cX7_readSoundOrClass 20 = .ok (.iconst 4, 1) := by decide +kernel
theorem d_X7_readSoundOrClass_21 : decode cX7_readSoundOrClass 21 = .ok (.invokevirtual 35, 3) := by decide +kernel
theorem d_X7_readSoundOrClass_24 : decode cX7_readSoundOrClass 24 = .ok (.istore_n 2, 1) := by decide +kernel
theorem d_X7_readSoundOrClass_25 : decode cX7_readSoundOrClass 25 = .ok (.iload_n 2, 1) := by decide +kernel
theorem d_X7_readSoundOrClass_26 : decode cX7_readSoundOrClass 26 = .ok (.iconst (-1), 1) := by decide +kernel
theorem d_X7_readSoundOrClass_27 : decode cX7_readSoundOrClass 27 = .ok (.if_icmp .ne 7, 3) := by decide +kernel
theorem d_X7_readSoundOrClass_30 : decode cX7_readSoundOrClass 30 = .ok (.iconst (-1), 1) := by decide +kernel
theorem d_X7_readSoundOrClass_31 : decode cX7_readSoundOrClass 31 = .ok (.goto 7, 3) := by decide +kernel
theorem d_X7_readSoundOrClass_34 : decode cX7_readSoundOrClass 34 = .ok (.bipush 10, 2) := by decide +kernel
theorem d_X7_readSoundOrClass_36 : decode cX7_readSoundOrClass 36 = .ok (.iload_n 2, 1) := by decide +kernel
theorem d_X7_readSoundOrClass_37 : decode cX7_readSoundOrClass 37 = .ok (.iadd, 1) := by decide +kernel
theorem d_X7_readSoundOrClass_38 : decode cX7_readSoundOrClass 38 = .ok (.ireturn, 1) := by decide +kernel
set_option maxHeartbeats 4000000 in
set_option maxRecDepth 100000 in
theorem t_X7_readSoundOrClass {X : XT_x} {G : GT_g} {M : Mem_m} {z : (Mem_m × Int)} (C : Cx_ (K_X7_readSoundOrClass) X G) (hR : Rx_ X G (some .int)) (x0 : Nat) (x1 : Nat)  (h : f_X7_readSoundOrClass G.2.2.2 M x0 x1 = some z) : V_ (K_X7_readSoundOrClass) X G (Fq_ X G (Qi_ G z.1 z.2)) M 0 [(0, .ref (G.1 + x0)), (1, .ref (G.1 + x1))] [] := by
  unfold f_X7_readSoundOrClass at h
  refine V_aload_n (j := 0) C d_X7_readSoundOrClass_0 rfl rfl ?_
  refine V_aload_n (j := 1) C d_X7_readSoundOrClass_1 rfl rfl ?_
  refine V_bipush (v := 67) C d_X7_readSoundOrClass_2 rfl ?_
  refine V_callVwi (K' := K_X7_readSign) (a := x0) (ci := 7) (av := [.ref (G.1 + x1), iv_i 67]) (rest := []) yi_X7_readSign (by decide) rfl C (yk_X7_readSign) l1_X7_31 (by decide) d_X7_readSoundOrClass_4 (fun v hv => ct_X7_readSign x0 x1 67 (okc rfl) hv) rfl rfl (Nat.le_of_ble_eq_true rfl) h (fun z1 o1 h => ?_)
  refine V_if_ne (tgt := 18) C d_X7_readSoundOrClass_7 (by decide) o1 h (fun h => ?_) (fun h => ?_)
  · skip
    refine V_aload_n (j := 0) C d_X7_readSoundOrClass_10 rfl rfl ?_
    refine V_aload_n (j := 1) C d_X7_readSoundOrClass_11 rfl rfl ?_
    refine V_bipush (v := 10) C d_X7_readSoundOrClass_12 rfl ?_
    refine V_callVwi (K' := K_X7_readDigit) (a := x0) (ci := 7) (av := [.ref (G.1 + x1), iv_i 10]) (rest := []) yi_X7_readDigit (by decide) rfl C (yk_X7_readDigit) l1_X7_35 (by decide) d_X7_readSoundOrClass_14 (fun v hv => ct_X7_readDigit x0 x1 10 (okc rfl) hv) rfl rfl (Nat.le_of_ble_eq_true rfl) h (fun z2 o2 h => ?_)
    exact V_iret_w C hR d_X7_readSoundOrClass_17 o2 h
  · skip
    refine V_aload_n (j := 0) C d_X7_readSoundOrClass_18 rfl rfl ?_
    refine V_aload_n (j := 1) C d_X7_readSoundOrClass_19 rfl rfl ?_
    refine V_iconst C d_X7_readSoundOrClass_20 ?_
    refine V_callVwi (K' := K_X7_readDigit) (a := x0) (ci := 7) (av := [.ref (G.1 + x1), iv_i 4]) (rest := []) yi_X7_readDigit (by decide) rfl C (yk_X7_readDigit) l1_X7_35 (by decide) d_X7_readSoundOrClass_21 (fun v hv => ct_X7_readDigit x0 x1 4 (okc rfl) hv) rfl rfl (Nat.le_of_ble_eq_true rfl) h (fun z3 o3 h => ?_)
    refine V_istore_n (lv' := [(2, iv_i z3.2), (0, .ref (G.1 + x0)), (1, .ref (G.1 + x1))]) C d_X7_readSoundOrClass_24 rfl (by decide) rfl ?_
    refine V_iload_n (j := 0) C d_X7_readSoundOrClass_25 rfl rfl ?_
    refine V_iconst C d_X7_readSoundOrClass_26 ?_
    refine V_icmp_ne (tgt := 34) C d_X7_readSoundOrClass_27 (by decide) o3 (okc rfl) h (fun h => ?_) (fun h => ?_)
    · skip
      refine V_iconst C d_X7_readSoundOrClass_30 ?_
      refine V_goto (tgt := 38) C d_X7_readSoundOrClass_31 (by decide) ?_
      exact V_iret_w C hR d_X7_readSoundOrClass_38 (okc rfl) h
    · skip
      refine V_bipush (v := 10) C d_X7_readSoundOrClass_34 rfl ?_
      refine V_iload_n (j := 0) C d_X7_readSoundOrClass_36 rfl rfl ?_
      refine V_iadd C d_X7_readSoundOrClass_37 ?_
      exact V_iret_w C hR d_X7_readSoundOrClass_38 (ok_wr _) h
set_option maxHeartbeats 4000000 in
set_option maxRecDepth 100000 in
theorem ct_X7_readSoundOrClass {l : Launch} {G : GT_g} {M : Mem_m} (x0 : Nat) (x1 : Nat)  {z : (Mem_m × Int)} (h : f_X7_readSoundOrClass G.2.2.2 M x0 x1 = some z) : MI_ l yX7_readSoundOrClass K_X7_readSoundOrClass (some .int) G M [.ref (G.1 + x0), .ref (G.1 + x1)] z.1 z.2 :=
  met_of (by decide +kernel) rfl (Nat.le_of_ble_eq_true rfl) (fun X hl C hR => by subst hl; exact t_X7_readSoundOrClass C hR x0 x1  h)
theorem d_X7_readPlace_0 : decode cX7_readPlace 0 = .ok (.aload_n 0, 1) := by decide +kernel
theorem d_X7_readPlace_1 : decode cX7_readPlace 1 = .ok (.aload_n 1, 1) := by decide +kernel
theorem d_X7_readPlace_2 : decode cX7_readPlace 2 = .ok (.bipush 35, 2) := by decide +kernel
theorem d_X7_readPlace_4 : decode cX7_readPlace 4 = .ok (.invokevirtual 31, 3) := by decide +kernel
theorem d_X7_readPlace_7 : decode cX7_readPlace 7 = .ok (.ifCond .eq 6, 3) := by decide +kernel
theorem d_X7_readPlace_10 : decode cX7_readPlace 10 = .ok (.bipush 14, 2) := by decide +kernel
theorem d_X7_readPlace_12 : decode cX7_readPlace 12 = .ok (.ireturn, 1) := by decide +kernel
theorem d_X7_readPlace_13 : decode cX7_readPlace 13 = .ok (.aload_n 0, 1) := by decide +kernel
theorem d_X7_readPlace_14 : decode cX7_readPlace 14 = .ok (.aload_n 1, 1) := by decide +kernel
theorem d_X7_readPlace_15 : decode cX7_readPlace 15 = .ok (.bipush 46, 2) := by decide +kernel
theorem d_X7_readPlace_17 : decode cX7_readPlace 17 = .ok (.invokevirtual 31, 3) := by decide +kernel
theorem d_X7_readPlace_20 : decode cX7_readPlace 20 = .ok (.ifCond .eq 8, 3) := by decide +kernel
theorem d_X7_readPlace_23 : decode cX7_readPlace 23 = .ok (.bipush 15, 2) := by decide +kernel
theorem d_X7_readPlace_25 : decode cX7_readPlace 25 = .ok (.goto 8, 3) := by decide +kernel
theorem d_X7_readPlace_28 : decode cX7_readPlace 28 = .ok (.aload_n 0, 1) := by decide +kernel
theorem d_X7_readPlace_29 : decode cX7_readPlace 29 = .ok (.aload_n 1, 1) := by decide +kernel
theorem d_X7_readPlace_30 : decode cX7_readPlace 30 = .ok (.invokevirtual 27, 3) := by decide +kernel
theorem d_X7_readPlace_33 : decode cX7_readPlace 33 = .ok (.ireturn, 1) := by decide +kernel
set_option maxHeartbeats 4000000 in
set_option maxRecDepth 100000 in
theorem t_X7_readPlace {X : XT_x} {G : GT_g} {M : Mem_m} {z : (Mem_m × Int)} (C : Cx_ (K_X7_readPlace) X G) (hR : Rx_ X G (some .int)) (x0 : Nat) (x1 : Nat)  (h : f_X7_readPlace G.2.2.2 M x0 x1 = some z) : V_ (K_X7_readPlace) X G (Fq_ X G (Qi_ G z.1 z.2)) M 0 [(0, .ref (G.1 + x0)), (1, .ref (G.1 + x1))] [] := by
  unfold f_X7_readPlace at h
  refine V_aload_n (j := 0) C d_X7_readPlace_0 rfl rfl ?_
  refine V_aload_n (j := 1) C d_X7_readPlace_1 rfl rfl ?_
  refine V_bipush (v := 35) C d_X7_readPlace_2 rfl ?_
  refine V_callVwi (K' := K_X7_readSign) (a := x0) (ci := 7) (av := [.ref (G.1 + x1), iv_i 35]) (rest := []) yi_X7_readSign (by decide) rfl C (yk_X7_readSign) l1_X7_31 (by decide) d_X7_readPlace_4 (fun v hv => ct_X7_readSign x0 x1 35 (okc rfl) hv) rfl rfl (Nat.le_of_ble_eq_true rfl) h (fun z1 o1 h => ?_)
  refine V_if_eq (tgt := 13) C d_X7_readPlace_7 (by decide) o1 h (fun h => ?_) (fun h => ?_)
  · skip
    refine V_aload_n (j := 0) C d_X7_readPlace_13 rfl rfl ?_
    refine V_aload_n (j := 1) C d_X7_readPlace_14 rfl rfl ?_
    refine V_bipush (v := 46) C d_X7_readPlace_15 rfl ?_
    refine V_callVwi (K' := K_X7_readSign) (a := x0) (ci := 7) (av := [.ref (G.1 + x1), iv_i 46]) (rest := []) yi_X7_readSign (by decide) rfl C (yk_X7_readSign) l1_X7_31 (by decide) d_X7_readPlace_17 (fun v hv => ct_X7_readSign x0 x1 46 (okc rfl) hv) rfl rfl (Nat.le_of_ble_eq_true rfl) h (fun z2 o2 h => ?_)
    refine V_if_eq (tgt := 28) C d_X7_readPlace_20 (by decide) o2 h (fun h => ?_) (fun h => ?_)
    · skip
      refine V_aload_n (j := 0) C d_X7_readPlace_28 rfl rfl ?_
      refine V_aload_n (j := 1) C d_X7_readPlace_29 rfl rfl ?_
      refine V_callVwi (K' := K_X7_readSoundOrClass) (a := x0) (ci := 7) (av := [.ref (G.1 + x1)]) (rest := []) yi_X7_readSoundOrClass (by decide) rfl C (yk_X7_readSoundOrClass) l1_X7_27 (by decide) d_X7_readPlace_30 (fun v hv => ct_X7_readSoundOrClass x0 x1 hv) rfl rfl (Nat.le_of_ble_eq_true rfl) h (fun z3 o3 h => ?_)
      exact V_iret_w C hR d_X7_readPlace_33 o3 h
    · skip
      refine V_bipush (v := 15) C d_X7_readPlace_23 rfl ?_
      refine V_goto (tgt := 33) C d_X7_readPlace_25 (by decide) ?_
      exact V_iret_w C hR d_X7_readPlace_33 (okc rfl) h
  · skip
    refine V_bipush (v := 14) C d_X7_readPlace_10 rfl ?_
    exact V_iret_w C hR d_X7_readPlace_12 (okc rfl) h
set_option maxHeartbeats 4000000 in
set_option maxRecDepth 100000 in
theorem ct_X7_readPlace {l : Launch} {G : GT_g} {M : Mem_m} (x0 : Nat) (x1 : Nat)  {z : (Mem_m × Int)} (h : f_X7_readPlace G.2.2.2 M x0 x1 = some z) : MI_ l yX7_readPlace K_X7_readPlace (some .int) G M [.ref (G.1 + x0), .ref (G.1 + x1)] z.1 z.2 :=
  met_of (by decide +kernel) rfl (Nat.le_of_ble_eq_true rfl) (fun X hl C hR => by subst hl; exact t_X7_readPlace C hR x0 x1  h)
theorem d_X7_isRead_0 : decode cX7_isRead 0 = .ok (.aload_n 0, 1) := by decide +kernel
theorem d_X7_isRead_1 : decode cX7_isRead 1 = .ok (.iconst 0, 1) := by decide +kernel
theorem d_X7_isRead_2 : decode cX7_isRead 2 = .ok (.putfield 24, 3) := by decide +kernel
theorem d_X7_isRead_5 : decode cX7_isRead 5 = .ok (.aload_n 0, 1) := by decide +kernel
theorem d_X7_isRead_6 : decode cX7_isRead 6 = .ok (.aload_n 0, 1) := by decide +kernel
theorem d_X7_isRead_7 : decode cX7_isRead 7 = .ok (.aload_n 1, 1) := by decide +kernel
theorem d_X7_isRead_8 : decode cX7_isRead 8 = .ok (.invokevirtual 27, 3) := by decide +kernel
theorem d_X7_isRead_11 : decode cX7_isRead 11 = .ok (.putfield 11, 3) := by decide +kernel
theorem d_X7_isRead_14 : decode cX7_isRead 14 = .ok (.aload_n 0, 1) := by decide +kernel
theorem d_X7_isRead_15 : decode cX7_isRead 15 = .ok (.getfield 11, 3) := by decide +kernel
theorem d_X7_isRead_18 : decode cX7_isRead 18 = .ok (.iconst (-1), 1) := by decide +kernel
theorem d_X7_isRead_19 : decode cX7_isRead 19 = .ok (.if_icmp .eq 13, 3) := by decide +kernel
theorem d_X7_isRead_22 : decode cX7_isRead 22 = .ok (.aload_n 0, 1) := by decide +kernel
theorem d_X7_isRead_23 : decode cX7_isRead 23 = .ok (.aload_n 1, 1) := by decide +kernel
theorem d_X7_isRead_24 : decode cX7_isRead 24 = .ok (.bipush 62, 2) := by decide +kernel
theorem d_X7_isRead_26 : decode cX7_isRead 26 = .ok (.invokevirtual 31, 3) := by decide +kernel
theorem d_X7_isRead_29 : decode cX7_isRead 29 = .ok (.ifCond .ne 5, 3) := by decide +kernel
theorem d_X7_isRead_32 : decode cX7_isRead 32 = .ok (.iconst 0, 1) := by decide +kernel
theorem d_X7_isRead_33 : decode cX7_isRead 33 = .ok (.ireturn, 1) := by decide +kernel
theorem d_X7_isRead_34 : decode cX7_isRead 34 = .ok (.aload_n 0, 1) := by decide +kernel
theorem d_X7_isRead_35 : decode cX7_isRead 35 = .ok (.aload_n 0, 1) := by decide +kernel
theorem d_X7_isRead_36 : decode cX7_isRead 36 = .ok (.aload_n 1, 1) := by decide +kernel
theorem d_X7_isRead_37 : decode cX7_isRead 37 = .ok (.bipush 45, 2) := by decide +kernel
theorem d_X7_isRead_39 : decode cX7_isRead 39 = .ok (.invokevirtual 31, 3) := by decide +kernel
theorem d_X7_isRead_42 : decode cX7_isRead 42 = .ok (.ifCond .eq 8, 3) := by decide +kernel
theorem d_X7_isRead_45 : decode cX7_isRead 45 = .ok (.bipush 16, 2) := by decide +kernel
theorem d_X7_isRead_47 : decode cX7_isRead 47 = .ok (.goto 10, 3) := by decide +kernel
theorem d_X7_isRead_50 : decode cX7_isRead 50 = .ok (.aload_n 0, 1) := by decide +kernel
theorem d_X7_isRead_51 : decode cX7_isRead 51 = .ok (.aload_n 1, 1) := by decide +kernel
theorem d_X7_isRead_52 : decode cX7_isRead 52 = .ok (.bipush 10, 2) := by decide +kernel
theorem d_X7_isRead_54 : decode cX7_isRead 54 = .ok (.invokevirtual 35, 3) := by decide +kernel
theorem d_X7_isRead_57 : decode cX7_isRead 57 = .ok (.putfield 15, 3) := by decide +kernel
theorem d_X7_isRead_60 : decode cX7_isRead 60 = .ok (.aload_n 0, 1) := by decide +kernel
theorem d_X7_isRead_61 : decode cX7_isRead 61 = .ok (.getfield 15, 3) := by decide +kernel
theorem d_X7_isRead_64 : decode cX7_isRead 64 = .ok (.iconst (-1), 1) := by decide +kernel
theorem d_X7_isRead_65 : decode cX7_isRead 65 = .ok (.if_icmp .eq 13, 3) := by decide +kernel
theorem d_X7_isRead_68 : decode cX7_isRead 68 = .ok (.aload_n 0, 1) := by decide +kernel
theorem d_X7_isRead_69 : decode cX7_isRead 69 = .ok (.aload_n 1, 1) := by decide +kernel
theorem d_X7_isRead_70 : decode cX7_isRead 70 = .ok (.bipush 47, 2) := by decide +kernel
theorem d_X7_isRead_72 : decode cX7_isRead 72 = .ok (.invokevirtual 31, 3) := by decide +kernel
theorem d_X7_isRead_75 : decode cX7_isRead 75 = .ok (.ifCond .ne 5, 3) := by decide +kernel
theorem d_X7_isRead_78 : decode cX7_isRead 78 = .ok (.iconst 0, 1) := by decide +kernel
theorem d_X7_isRead_79 : decode cX7_isRead 79 = .ok (.ireturn, 1) := by decide +kernel
theorem d_X7_isRead_80 : decode cX7_isRead 80 = .ok (.aload_n 0, 1) := by decide +kernel
theorem d_X7_isRead_81 : decode cX7_isRead 81 = .ok (.aload_n 0, 1) := by decide +kernel
theorem d_X7_isRead_82 : decode cX7_isRead 82 = .ok (.aload_n 1, 1) := by decide +kernel
theorem d_X7_isRead_83 : decode cX7_isRead 83 = .ok (.invokevirtual 39, 3) := by decide +kernel
theorem d_X7_isRead_86 : decode cX7_isRead 86 = .ok (.putfield 18, 3) := by decide +kernel
theorem d_X7_isRead_89 : decode cX7_isRead 89 = .ok (.aload_n 0, 1) := by decide +kernel
theorem d_X7_isRead_90 : decode cX7_isRead 90 = .ok (.getfield 18, 3) := by decide +kernel
theorem d_X7_isRead_93 : decode cX7_isRead 93 = .ok (.iconst (-1), 1) := by decide +kernel
theorem d_X7_isRead_94 : decode cX7_isRead 94 = .ok (.if_icmp .eq 13, 3) := by decide +kernel
theorem d_X7_isRead_97 : decode cX7_isRead 97 = .ok (.aload_n 0, 1) := by decide +kernel
theorem d_X7_isRead_98 : decode cX7_isRead 98 = .ok (.aload_n 1, 1) := by decide +kernel
theorem d_X7_isRead_99 : decode cX7_isRead 99 = .ok (.bipush 95, 2) := by decide +kernel
theorem d_X7_isRead_101 : decode cX7_isRead 101 = .ok (.invokevirtual 31, 3) := by decide +kernel
theorem d_X7_isRead_104 : decode cX7_isRead 104 = .ok (.ifCond .ne 5, 3) := by decide +kernel
theorem d_X7_isRead_107 : decode cX7_isRead 107 = .ok (.iconst 0, 1) := by decide +kernel
theorem d_X7_isRead_108 : decode cX7_isRead 108 = .ok (.ireturn, 1) := by decide +kernel
theorem d_X7_isRead_109 : decode cX7_isRead 109 = .ok (.aload_n 0, 1) := by decide +kernel
theorem d_X7_isRead_110 : decode cX7_isRead 110 = .ok (.aload_n 0, 1) := by decide +kernel
theorem d_X7_isRead_111 : decode cX7_isRead 111 = .ok (.aload_n 1, 1) := by decide +kernel
theorem d_X7_isRead_112 : decode cX7_isRead 112 = .ok (.invokevirtual 39, 3) := by decide +kernel
theorem d_X7_isRead_115 : decode cX7_isRead 115 = .ok (.putfield 21, 3) := by decide +kernel
theorem d_X7_isRead_118 : decode cX7_isRead 118 = .ok (.aload_n 0, 1) := by decide +kernel
theorem d_X7_isRead_119 : decode cX7_isRead 119 = .ok (.getfield 21, 3) := by decide +kernel
theorem d_X7_isRead_122 : decode cX7_isRead 122 = .ok (.iconst (-1), 1) := by decide +kernel
theorem d_X7_isRead_123 : decode cX7_isRead 123 = .ok (.if_icmp .eq 18, 3) := by decide +kernel
theorem d_X7_isRead_126 : decode cX7_isRead 126 = .ok (.aload_n 0, 1) := by decide +kernel
theorem d_X7_isRead_127 : decode cX7_isRead 127 = .ok (.getfield 24, 3) := by decide +kernel
theorem d_X7_isRead_130 : decode cX7_isRead 130 = .ok (.aload_n 1, 1) := by decide +kernel
theorem d_X7_isRead_131 : decode cX7_isRead 131 = .ok (.getfield 42, 3) := by decide +kernel
theorem d_X7_isRead_134 : decode cX7_isRead 134 = .ok (.if_icmp .ne 7, 3) := by decide +kernel
theorem d_X7_isRead_137 : decode cX7_isRead 137 = .ok (.iconst 1, 1) := by decide +kernel
theorem d_X7_isRead_138 : decode cX7_isRead 138 = .ok (.goto 4, 3) := by decide +kernel
theorem d_X7_isRead_141 : decode cX7_isRead 141 = .ok (.iconst 0, 1) := by decide +kernel
theorem d_X7_isRead_142 : decode cX7_isRead 142 = .ok (.ireturn, 1) := by decide +kernel
set_option maxHeartbeats 4000000 in
set_option maxRecDepth 100000 in
theorem t_X7_isRead_57 {X : XT_x} {G : GT_g} {z : (Mem_m × Int)} (C : Cx_ (K_X7_isRead) X G) (hR : Rx_ X G (some .boolean)) (M : Mem_m) (x0 : Nat) (x1 : Nat) (s0 : Int) (s1 : Nat) (o_s0 : ok_i s0) (h : f_X7_isRead_57 G.2.2.2 M x0 x1 s0 s1 = some z) : V_ (K_X7_isRead) X G (Fq_ X G (Qi_ G z.1 z.2)) M 57 [(0, .ref (G.1 + x0)), (1, .ref (G.1 + x1))] [iv_i s0, .ref (G.1 + s1)] := by
  unfold f_X7_isRead_57 at h
  refine V_putI C ck_7 fw_X7_15 fp_7_1 d_X7_isRead_57 o_s0 h (fun M1 h => ?_)
  refine V_aload_n (j := 0) C d_X7_isRead_60 rfl rfl ?_
  refine V_getI C ck_7 fw_X7_15 d_X7_isRead_61 h (fun v2 o2 h => ?_)
  refine V_iconst C d_X7_isRead_64 ?_
  refine V_icmp_eq (tgt := 78) C d_X7_isRead_65 (by decide) o2 (okc rfl) h (fun h => ?_) (fun h => ?_)
  · skip
    refine V_iconst C d_X7_isRead_78 ?_
    exact V_zret_w C hR d_X7_isRead_79 (Or.inl rfl) h
  · skip
    refine V_aload_n (j := 0) C d_X7_isRead_68 rfl rfl ?_
    refine V_aload_n (j := 1) C d_X7_isRead_69 rfl rfl ?_
    refine V_bipush (v := 47) C d_X7_isRead_70 rfl ?_
    refine V_callVwi (K' := K_X7_readSign) (a := x0) (ci := 7) (av := [.ref (G.1 + x1), iv_i 47]) (rest := []) yi_X7_readSign (by decide) rfl C (yk_X7_readSign) l1_X7_31 (by decide) d_X7_isRead_72 (fun v hv => ct_X7_readSign x0 x1 47 (okc rfl) hv) rfl rfl (Nat.le_of_ble_eq_true rfl) h (fun z3 o3 h => ?_)
    refine V_if_ne (tgt := 80) C d_X7_isRead_75 (by decide) o3 h (fun h => ?_) (fun h => ?_)
    · skip
      refine V_iconst C d_X7_isRead_78 ?_
      exact V_zret_w C hR d_X7_isRead_79 (Or.inl rfl) h
    · skip
      refine V_aload_n (j := 0) C d_X7_isRead_80 rfl rfl ?_
      refine V_aload_n (j := 0) C d_X7_isRead_81 rfl rfl ?_
      refine V_aload_n (j := 1) C d_X7_isRead_82 rfl rfl ?_
      refine V_callVwi (K' := K_X7_readPlace) (a := x0) (ci := 7) (av := [.ref (G.1 + x1)]) (rest := [.ref (G.1 + x0)]) yi_X7_readPlace (by decide) rfl C (yk_X7_readPlace) l1_X7_39 (by decide) d_X7_isRead_83 (fun v hv => ct_X7_readPlace x0 x1 hv) rfl rfl (Nat.le_of_ble_eq_true rfl) h (fun z4 o4 h => ?_)
      refine V_putI C ck_7 fw_X7_18 fp_7_2 d_X7_isRead_86 o4 h (fun M5 h => ?_)
      refine V_aload_n (j := 0) C d_X7_isRead_89 rfl rfl ?_
      refine V_getI C ck_7 fw_X7_18 d_X7_isRead_90 h (fun v6 o6 h => ?_)
      refine V_iconst C d_X7_isRead_93 ?_
      refine V_icmp_eq (tgt := 107) C d_X7_isRead_94 (by decide) o6 (okc rfl) h (fun h => ?_) (fun h => ?_)
      · skip
        refine V_iconst C d_X7_isRead_107 ?_
        exact V_zret_w C hR d_X7_isRead_108 (Or.inl rfl) h
      · skip
        refine V_aload_n (j := 0) C d_X7_isRead_97 rfl rfl ?_
        refine V_aload_n (j := 1) C d_X7_isRead_98 rfl rfl ?_
        refine V_bipush (v := 95) C d_X7_isRead_99 rfl ?_
        refine V_callVwi (K' := K_X7_readSign) (a := x0) (ci := 7) (av := [.ref (G.1 + x1), iv_i 95]) (rest := []) yi_X7_readSign (by decide) rfl C (yk_X7_readSign) l1_X7_31 (by decide) d_X7_isRead_101 (fun v hv => ct_X7_readSign x0 x1 95 (okc rfl) hv) rfl rfl (Nat.le_of_ble_eq_true rfl) h (fun z7 o7 h => ?_)
        refine V_if_ne (tgt := 109) C d_X7_isRead_104 (by decide) o7 h (fun h => ?_) (fun h => ?_)
        · skip
          refine V_iconst C d_X7_isRead_107 ?_
          exact V_zret_w C hR d_X7_isRead_108 (Or.inl rfl) h
        · skip
          refine V_aload_n (j := 0) C d_X7_isRead_109 rfl rfl ?_
          refine V_aload_n (j := 0) C d_X7_isRead_110 rfl rfl ?_
          refine V_aload_n (j := 1) C d_X7_isRead_111 rfl rfl ?_
          refine V_callVwi (K' := K_X7_readPlace) (a := x0) (ci := 7) (av := [.ref (G.1 + x1)]) (rest := [.ref (G.1 + x0)]) yi_X7_readPlace (by decide) rfl C (yk_X7_readPlace) l1_X7_39 (by decide) d_X7_isRead_112 (fun v hv => ct_X7_readPlace x0 x1 hv) rfl rfl (Nat.le_of_ble_eq_true rfl) h (fun z8 o8 h => ?_)
          refine V_putI C ck_7 fw_X7_21 fp_7_3 d_X7_isRead_115 o8 h (fun M9 h => ?_)
          refine V_aload_n (j := 0) C d_X7_isRead_118 rfl rfl ?_
          refine V_getI C ck_7 fw_X7_21 d_X7_isRead_119 h (fun v10 o10 h => ?_)
          refine V_iconst C d_X7_isRead_122 ?_
          refine V_icmp_eq (tgt := 141) C d_X7_isRead_123 (by decide) o10 (okc rfl) h (fun h => ?_) (fun h => ?_)
          · skip
            refine V_iconst C d_X7_isRead_141 ?_
            exact V_zret_w C hR d_X7_isRead_142 (Or.inl rfl) h
          · skip
            refine V_aload_n (j := 0) C d_X7_isRead_126 rfl rfl ?_
            refine V_getI C ck_7 fw_X7_24 d_X7_isRead_127 h (fun v11 o11 h => ?_)
            refine V_aload_n (j := 1) C d_X7_isRead_130 rfl rfl ?_
            refine V_getI C ck_9 fw_X7_42 d_X7_isRead_131 h (fun v12 o12 h => ?_)
            refine V_icmp_ne (tgt := 141) C d_X7_isRead_134 (by decide) o11 o12 h (fun h => ?_) (fun h => ?_)
            · skip
              refine V_iconst C d_X7_isRead_137 ?_
              refine V_goto (tgt := 142) C d_X7_isRead_138 (by decide) ?_
              exact V_zret_w C hR d_X7_isRead_142 (Or.inr rfl) h
            · skip
              refine V_iconst C d_X7_isRead_141 ?_
              exact V_zret_w C hR d_X7_isRead_142 (Or.inl rfl) h
set_option maxHeartbeats 4000000 in
set_option maxRecDepth 100000 in
theorem t_X7_isRead {X : XT_x} {G : GT_g} {M : Mem_m} {z : (Mem_m × Int)} (C : Cx_ (K_X7_isRead) X G) (hR : Rx_ X G (some .boolean)) (x0 : Nat) (x1 : Nat)  (h : f_X7_isRead G.2.2.2 M x0 x1 = some z) : V_ (K_X7_isRead) X G (Fq_ X G (Qi_ G z.1 z.2)) M 0 [(0, .ref (G.1 + x0)), (1, .ref (G.1 + x1))] [] := by
  unfold f_X7_isRead at h
  refine V_aload_n (j := 0) C d_X7_isRead_0 rfl rfl ?_
  refine V_iconst C d_X7_isRead_1 ?_
  refine V_putI C ck_7 fw_X7_24 fp_7_4 d_X7_isRead_2 (okc rfl) h (fun M1 h => ?_)
  refine V_aload_n (j := 0) C d_X7_isRead_5 rfl rfl ?_
  refine V_aload_n (j := 0) C d_X7_isRead_6 rfl rfl ?_
  refine V_aload_n (j := 1) C d_X7_isRead_7 rfl rfl ?_
  refine V_callVwi (K' := K_X7_readSoundOrClass) (a := x0) (ci := 7) (av := [.ref (G.1 + x1)]) (rest := [.ref (G.1 + x0)]) yi_X7_readSoundOrClass (by decide) rfl C (yk_X7_readSoundOrClass) l1_X7_27 (by decide) d_X7_isRead_8 (fun v hv => ct_X7_readSoundOrClass x0 x1 hv) rfl rfl (Nat.le_of_ble_eq_true rfl) h (fun z2 o2 h => ?_)
  refine V_putI C ck_7 fw_X7_11 fp_7_0 d_X7_isRead_11 o2 h (fun M3 h => ?_)
  refine V_aload_n (j := 0) C d_X7_isRead_14 rfl rfl ?_
  refine V_getI C ck_7 fw_X7_11 d_X7_isRead_15 h (fun v4 o4 h => ?_)
  refine V_iconst C d_X7_isRead_18 ?_
  refine V_icmp_eq (tgt := 32) C d_X7_isRead_19 (by decide) o4 (okc rfl) h (fun h => ?_) (fun h => ?_)
  · skip
    refine V_iconst C d_X7_isRead_32 ?_
    exact V_zret_w C hR d_X7_isRead_33 (Or.inl rfl) h
  · skip
    refine V_aload_n (j := 0) C d_X7_isRead_22 rfl rfl ?_
    refine V_aload_n (j := 1) C d_X7_isRead_23 rfl rfl ?_
    refine V_bipush (v := 62) C d_X7_isRead_24 rfl ?_
    refine V_callVwi (K' := K_X7_readSign) (a := x0) (ci := 7) (av := [.ref (G.1 + x1), iv_i 62]) (rest := []) yi_X7_readSign (by decide) rfl C (yk_X7_readSign) l1_X7_31 (by decide) d_X7_isRead_26 (fun v hv => ct_X7_readSign x0 x1 62 (okc rfl) hv) rfl rfl (Nat.le_of_ble_eq_true rfl) h (fun z5 o5 h => ?_)
    refine V_if_ne (tgt := 34) C d_X7_isRead_29 (by decide) o5 h (fun h => ?_) (fun h => ?_)
    · skip
      refine V_iconst C d_X7_isRead_32 ?_
      exact V_zret_w C hR d_X7_isRead_33 (Or.inl rfl) h
    · skip
      refine V_aload_n (j := 0) C d_X7_isRead_34 rfl rfl ?_
      refine V_aload_n (j := 0) C d_X7_isRead_35 rfl rfl ?_
      refine V_aload_n (j := 1) C d_X7_isRead_36 rfl rfl ?_
      refine V_bipush (v := 45) C d_X7_isRead_37 rfl ?_
      refine V_callVwi (K' := K_X7_readSign) (a := x0) (ci := 7) (av := [.ref (G.1 + x1), iv_i 45]) (rest := [.ref (G.1 + x0)]) yi_X7_readSign (by decide) rfl C (yk_X7_readSign) l1_X7_31 (by decide) d_X7_isRead_39 (fun v hv => ct_X7_readSign x0 x1 45 (okc rfl) hv) rfl rfl (Nat.le_of_ble_eq_true rfl) h (fun z6 o6 h => ?_)
      refine V_if_eq (tgt := 50) C d_X7_isRead_42 (by decide) o6 h (fun h => ?_) (fun h => ?_)
      · skip
        refine V_aload_n (j := 0) C d_X7_isRead_50 rfl rfl ?_
        refine V_aload_n (j := 1) C d_X7_isRead_51 rfl rfl ?_
        refine V_bipush (v := 10) C d_X7_isRead_52 rfl ?_
        refine V_callVwi (K' := K_X7_readDigit) (a := x0) (ci := 7) (av := [.ref (G.1 + x1), iv_i 10]) (rest := [.ref (G.1 + x0)]) yi_X7_readDigit (by decide) rfl C (yk_X7_readDigit) l1_X7_35 (by decide) d_X7_isRead_54 (fun v hv => ct_X7_readDigit x0 x1 10 (okc rfl) hv) rfl rfl (Nat.le_of_ble_eq_true rfl) h (fun z7 o7 h => ?_)
        refine V_lv [0, 1] rfl (t_X7_isRead_57 C hR z7.1 x0 x1 z7.2 x0 o7 h)
      · skip
        refine V_bipush (v := 16) C d_X7_isRead_45 rfl ?_
        refine V_goto (tgt := 57) C d_X7_isRead_47 (by decide) ?_
        refine V_lv [0, 1] rfl (t_X7_isRead_57 C hR z6.1 x0 x1 16 x0 (okc rfl) h)
set_option maxHeartbeats 4000000 in
set_option maxRecDepth 100000 in
theorem ct_X7_isRead {l : Launch} {G : GT_g} {M : Mem_m} (x0 : Nat) (x1 : Nat)  {z : (Mem_m × Int)} (h : f_X7_isRead G.2.2.2 M x0 x1 = some z) : MI_ l yX7_isRead K_X7_isRead (some .boolean) G M [.ref (G.1 + x0), .ref (G.1 + x1)] z.1 z.2 :=
  met_of (by decide +kernel) rfl (Nat.le_of_ble_eq_true rfl) (fun X hl C hR => by subst hl; exact t_X7_isRead C hR x0 x1  h)
theorem d_X9_holdNothing_0 : decode cX9_holdNothing 0 = .ok (.aload_n 0, 1) := by decide +kernel
theorem d_X9_holdNothing_1 : decode cX9_holdNothing 1 = .ok (.iconst 0, 1) := by decide +kernel
theorem d_X9_holdNothing_2 : decode cX9_holdNothing 2 = .ok (.putfield 11, 3) := by decide +kernel
theorem d_X9_holdNothing_5 : decode cX9_holdNothing 5 = .ok (.return_, 1) := by decide +kernel
set_option maxHeartbeats 4000000 in
set_option maxRecDepth 100000 in
theorem t_X9_holdNothing {X : XT_x} {G : GT_g} {M : Mem_m} {z : Mem_m} (C : Cx_ (K_X9_holdNothing) X G) (hR : Rx_ X G none) (x0 : Nat)  (h : f_X9_holdNothing G.2.2.2 M x0 = some z) : V_ (K_X9_holdNothing) X G (Fq_ X G (Qv_ G z)) M 0 [(0, .ref (G.1 + x0))] [] := by
  unfold f_X9_holdNothing at h
  refine V_aload_n (j := 0) C d_X9_holdNothing_0 rfl rfl ?_
  refine V_iconst C d_X9_holdNothing_1 ?_
  refine V_putI C ck_9 fw_X9_11 fp_9_0 d_X9_holdNothing_2 (okc rfl) h (fun M1 h => ?_)
  exact V_vret C hR d_X9_holdNothing_5 (Option.some.inj h)
set_option maxHeartbeats 4000000 in
set_option maxRecDepth 100000 in
theorem ct_X9_holdNothing {l : Launch} {G : GT_g} {M : Mem_m} (x0 : Nat)  {z : Mem_m} (h : f_X9_holdNothing G.2.2.2 M x0 = some z) : MV_ l yX9_holdNothing K_X9_holdNothing none G M [.ref (G.1 + x0)] z :=
  met_of (by decide +kernel) rfl (Nat.le_of_ble_eq_true rfl) (fun X hl C hR => by subst hl; exact t_X9_holdNothing C hR x0  h)
theorem d_X9_holdNote_0 : decode cX9_holdNote 0 = .ok (.aload_n 0, 1) := by decide +kernel
theorem d_X9_holdNote_1 : decode cX9_holdNote 1 = .ok (.iconst 1, 1) := by decide +kernel
theorem d_X9_holdNote_2 : decode cX9_holdNote 2 = .ok (.putfield 11, 3) := by decide +kernel
theorem d_X9_holdNote_5 : decode cX9_holdNote 5 = .ok (.aload_n 0, 1) := by decide +kernel
theorem d_X9_holdNote_6 : decode cX9_holdNote 6 = .ok (.getfield 18, 3) := by decide +kernel
theorem d_X9_holdNote_9 : decode cX9_holdNote 9 = .ok (.aload_n 1, 1) := by decide +kernel
theorem d_X9_holdNote_10 : decode cX9_holdNote 10 = .ok (.invokevirtual 26, 3) := by decide +kernel
theorem d_X9_holdNote_13 : decode cX9_holdNote 13 = .ok (.return_, 1) := by decide +kernel
set_option maxHeartbeats 4000000 in
set_option maxRecDepth 100000 in
theorem t_X9_holdNote {X : XT_x} {G : GT_g} {M : Mem_m} {z : Mem_m} (C : Cx_ (K_X9_holdNote) X G) (hR : Rx_ X G none) (x0 : Nat) (x1 : Nat)  (h : f_X9_holdNote G.2.2.2 M x0 x1 = some z) : V_ (K_X9_holdNote) X G (Fq_ X G (Qv_ G z)) M 0 [(0, .ref (G.1 + x0)), (1, .ref (G.1 + x1))] [] := by
  unfold f_X9_holdNote at h
  refine V_aload_n (j := 0) C d_X9_holdNote_0 rfl rfl ?_
  refine V_iconst C d_X9_holdNote_1 ?_
  refine V_putI C ck_9 fw_X9_11 fp_9_0 d_X9_holdNote_2 (okc rfl) h (fun M1 h => ?_)
  refine V_aload_n (j := 0) C d_X9_holdNote_5 rfl rfl ?_
  refine V_getR C ck_9 fw_X9_18 d_X9_holdNote_6 h (fun v2 h => ?_)
  refine V_aload_n (j := 1) C d_X9_holdNote_9 rfl rfl ?_
  refine V_callVwv (K' := K_X5_take) (a := v2) (ci := 5) (av := [.ref (G.1 + x1)]) (rest := []) yi_X5_take (by decide) rfl C (yk_X5_take) l1_X9_26 (by decide) d_X9_holdNote_10 (fun v hv => ct_X5_take v2 x1 hv) rfl rfl (Nat.le_of_ble_eq_true rfl) h (fun M3 h => ?_)
  exact V_vret C hR d_X9_holdNote_13 (Option.some.inj h)
set_option maxHeartbeats 4000000 in
set_option maxRecDepth 100000 in
theorem ct_X9_holdNote {l : Launch} {G : GT_g} {M : Mem_m} (x0 : Nat) (x1 : Nat)  {z : Mem_m} (h : f_X9_holdNote G.2.2.2 M x0 x1 = some z) : MV_ l yX9_holdNote K_X9_holdNote none G M [.ref (G.1 + x0), .ref (G.1 + x1)] z :=
  met_of (by decide +kernel) rfl (Nat.le_of_ble_eq_true rfl) (fun X hl C hR => by subst hl; exact t_X9_holdNote C hR x0 x1  h)
theorem d_X9_set_0 : decode cX9_set 0 = .ok (.aload_n 0, 1) := by decide +kernel
theorem d_X9_set_1 : decode cX9_set 1 = .ok (.getfield 30, 3) := by decide +kernel
theorem d_X9_set_4 : decode cX9_set 4 = .ok (.ifCond .ne 14, 3) := by decide +kernel
theorem d_X9_set_7 : decode cX9_set 7 = .ok (.aload_n 0, 1) := by decide +kernel
theorem d_X9_set_8 : decode cX9_set 8 = .ok (.getfield 22, 3) := by decide +kernel
theorem d_X9_set_11 : decode cX9_set 11 = .ok (.iload_n 1, 1) := by decide +kernel
theorem d_X9_set_12 : decode cX9_set 12 = .ok (.iload_n 2, 1) := by decide +kernel
theorem d_X9_set_13 : decode cX9_set 13 = .ok (.i2b, 1) := by decide +kernel
theorem d_X9_set_14 : decode cX9_set 14 = .ok (.iastore, 1) := by decide +kernel
theorem d_X9_set_15 : decode cX9_set 15 = .ok (.goto 29, 3) := by decide +kernel
theorem d_X9_set_18 : decode cX9_set 18 = .ok (.aload_n 0, 1) := by decide +kernel
theorem d_X9_set_19 : decode cX9_set 19 = .ok (.getfield 30, 3) := by decide +kernel
theorem d_X9_set_22 : decode cX9_set 22 = .ok (.iconst 1, 1) := by decide +kernel
theorem d_X9_set_23 : decode cX9_set 23 = .ok (.if_icmp .ne 14, 3) := by decide +kernel
theorem d_X9_set_26 : decode cX9_set 26 = .ok (.aload_n 0, 1) := by decide +kernel
theorem d_X9_set_27 : decode cX9_set 27 = .ok (.getfield 22, 3) := by decide +kernel
theorem d_X9_set_30 : decode cX9_set 30 = .ok (.iload_n 1, 1) := by decide +kernel
theorem d_X9_set_31 : decode cX9_set 31 = .ok (.iload_n 2, 1) := by decide +kernel
theorem d_X9_set_32 : decode cX9_set 32 = .ok (.i2s, 1) := by decide +kernel
theorem d_X9_set_33 : decode cX9_set 33 = .ok (.iastore, 1) := by decide +kernel
theorem d_X9_set_34 : decode cX9_set 34 = .ok (.goto 10, 3) := by decide +kernel
theorem d_X9_set_37 : decode cX9_set 37 = .ok (.aload_n 0, 1) := by decide +kernel
theorem d_X9_set_38 : decode cX9_set 38 = .ok (.getfield 22, 3) := by decide +kernel
theorem d_X9_set_41 : decode cX9_set 41 = .ok (.iload_n 1, 1) := by decide +kernel
theorem d_X9_set_42 : decode cX9_set 42 = .ok (.iload_n 2, 1) := by decide +kernel
theorem d_X9_set_43 : decode cX9_set 43 = .ok (.iastore, 1) := by decide +kernel
theorem d_X9_set_44 : decode cX9_set 44 = .ok (.return_, 1) := by decide +kernel
set_option maxHeartbeats 4000000 in
set_option maxRecDepth 100000 in
theorem t_X9_set {X : XT_x} {G : GT_g} {M : Mem_m} {z : Mem_m} (C : Cx_ (K_X9_set) X G) (hR : Rx_ X G none) (x0 : Nat) (x1 : Int) (x2 : Int) (o_x1 : ok_i x1) (o_x2 : ok_i x2) (h : f_X9_set G.2.2.2 M x0 x1 x2 = some z) : V_ (K_X9_set) X G (Fq_ X G (Qv_ G z)) M 0 [(0, .ref (G.1 + x0)), (1, iv_i x1), (2, iv_i x2)] [] := by
  unfold f_X9_set at h
  refine V_aload_n (j := 0) C d_X9_set_0 rfl rfl ?_
  refine V_getI C ck_9 fw_X9_30 d_X9_set_1 h (fun v1 o1 h => ?_)
  refine V_if_ne (tgt := 18) C d_X9_set_4 (by decide) o1 h (fun h => ?_) (fun h => ?_)
  · skip
    refine V_aload_n (j := 0) C d_X9_set_7 rfl rfl ?_
    refine V_getR C ck_9 fw_X9_22 d_X9_set_8 h (fun v2 h => ?_)
    refine V_iload_n (j := 1) C d_X9_set_11 rfl rfl ?_
    refine V_iload_n (j := 2) C d_X9_set_12 rfl rfl ?_
    refine V_i2b C d_X9_set_13 ?_
    refine V_iast C d_X9_set_14 o_x1 (ok_I _) h (fun M3 h => ?_)
    refine V_goto (tgt := 44) C d_X9_set_15 (by decide) ?_
    exact V_vret C hR d_X9_set_44 (Option.some.inj h)
  · skip
    refine V_aload_n (j := 0) C d_X9_set_18 rfl rfl ?_
    refine V_getI C ck_9 fw_X9_30 d_X9_set_19 h (fun v4 o4 h => ?_)
    refine V_iconst C d_X9_set_22 ?_
    refine V_icmp_ne (tgt := 37) C d_X9_set_23 (by decide) o4 (okc rfl) h (fun h => ?_) (fun h => ?_)
    · skip
      refine V_aload_n (j := 0) C d_X9_set_26 rfl rfl ?_
      refine V_getR C ck_9 fw_X9_22 d_X9_set_27 h (fun v5 h => ?_)
      refine V_iload_n (j := 1) C d_X9_set_30 rfl rfl ?_
      refine V_iload_n (j := 2) C d_X9_set_31 rfl rfl ?_
      refine V_i2s C d_X9_set_32 ?_
      refine V_iast C d_X9_set_33 o_x1 (ok_I _) h (fun M6 h => ?_)
      refine V_goto (tgt := 44) C d_X9_set_34 (by decide) ?_
      exact V_vret C hR d_X9_set_44 (Option.some.inj h)
    · skip
      refine V_aload_n (j := 0) C d_X9_set_37 rfl rfl ?_
      refine V_getR C ck_9 fw_X9_22 d_X9_set_38 h (fun v7 h => ?_)
      refine V_iload_n (j := 1) C d_X9_set_41 rfl rfl ?_
      refine V_iload_n (j := 2) C d_X9_set_42 rfl rfl ?_
      refine V_iast C d_X9_set_43 o_x1 o_x2 h (fun M8 h => ?_)
      exact V_vret C hR d_X9_set_44 (Option.some.inj h)
set_option maxHeartbeats 4000000 in
set_option maxRecDepth 100000 in
theorem ct_X9_set {l : Launch} {G : GT_g} {M : Mem_m} (x0 : Nat) (x1 : Int) (x2 : Int) (o_x1 : ok_i x1) (o_x2 : ok_i x2) {z : Mem_m} (h : f_X9_set G.2.2.2 M x0 x1 x2 = some z) : MV_ l yX9_set K_X9_set none G M [.ref (G.1 + x0), iv_i x1, iv_i x2] z :=
  met_of (by decide +kernel) rfl (Nat.le_of_ble_eq_true rfl) (fun X hl C hR => by subst hl; exact t_X9_set C hR x0 x1 x2 o_x1 o_x2 h)
theorem d_X9_hasPlaces_0 : decode cX9_hasPlaces 0 = .ok (.iload_n 1, 1) := by decide +kernel
theorem d_X9_hasPlaces_1 : decode cX9_hasPlaces 1 = .ok (.ifCond .lt 25, 3) := by decide +kernel
theorem d_X9_hasPlaces_4 : decode cX9_hasPlaces 4 = .ok (.iload_n 1, 1) := by decide +kernel
theorem d_X9_hasPlaces_5 : decode cX9_hasPlaces 5 = .ok (.aload_n 0, 1) := by decide +kernel
theorem d_X9_hasPlaces_6 : decode cX9_hasPlaces 6 = .ok (.getfield 33, 3) := by decide +kernel
theorem d_X9_hasPlaces_9 : decode cX9_hasPlaces 9 = .ok (.if_icmp .gt 17, 3) := by decide +kernel
theorem d_X9_hasPlaces_12 : decode cX9_hasPlaces 12 = .ok (.iload_n 2, 1) := by decide +kernel
theorem d_X9_hasPlaces_13 : decode cX9_hasPlaces 13 = .ok (.aload_n 0, 1) := by decide +kernel
theorem d_X9_hasPlaces_14 : decode cX9_hasPlaces 14 = .ok (.getfield 33, 3) := by decide +kernel
theorem d_X9_hasPlaces_17 : decode cX9_hasPlaces 17 = .ok (.iload_n 1, 1) := by decide +kernel
theorem d_X9_hasPlaces_18 : decode cX9_hasPlaces 18 = .ok (.isub, 1) := by decide +kernel
theorem d_X9_hasPlaces_19 : decode cX9_hasPlaces 19 = .ok (.if_icmp .gt 7, 3) := by decide +kernel
theorem d_X9_hasPlaces_22 : decode cX9_hasPlaces 22 = .ok (.iconst 1, 1) := by decide +kernel
theorem d_X9_hasPlaces_23 : decode cX9_hasPlaces 23 = .ok (.goto 4, 3) := by decide +kernel
theorem d_X9_hasPlaces_26 : decode cX9_hasPlaces 26 = .ok (.iconst 0, 1) := by decide +kernel
theorem d_X9_hasPlaces_27 : decode cX9_hasPlaces 27 = .ok (.ireturn, 1) := by decide +kernel
set_option maxHeartbeats 4000000 in
set_option maxRecDepth 100000 in
theorem t_X9_hasPlaces {X : XT_x} {G : GT_g} {M : Mem_m} {z : Int} (C : Cx_ (K_X9_hasPlaces) X G) (hR : Rx_ X G (some .boolean)) (x0 : Nat) (x1 : Int) (x2 : Int) (o_x1 : ok_i x1) (o_x2 : ok_i x2) (h : f_X9_hasPlaces G.2.2.2 M x0 x1 x2 = some z) : V_ (K_X9_hasPlaces) X G (Fq_ X G (Qi_ G M z)) M 0 [(0, .ref (G.1 + x0)), (1, iv_i x1), (2, iv_i x2)] [] := by
  unfold f_X9_hasPlaces at h
  refine V_iload_n (j := 1) C d_X9_hasPlaces_0 rfl rfl ?_
  refine V_if_lt (tgt := 26) C d_X9_hasPlaces_1 (by decide) o_x1 h (fun h => ?_) (fun h => ?_)
  · skip
    refine V_iconst C d_X9_hasPlaces_26 ?_
    exact V_zret_r C hR d_X9_hasPlaces_27 (Or.inl rfl) h
  · skip
    refine V_iload_n (j := 1) C d_X9_hasPlaces_4 rfl rfl ?_
    refine V_aload_n (j := 0) C d_X9_hasPlaces_5 rfl rfl ?_
    refine V_getI C ck_9 fw_X9_33 d_X9_hasPlaces_6 h (fun v1 o1 h => ?_)
    refine V_icmp_gt (tgt := 26) C d_X9_hasPlaces_9 (by decide) o_x1 o1 h (fun h => ?_) (fun h => ?_)
    · skip
      refine V_iload_n (j := 2) C d_X9_hasPlaces_12 rfl rfl ?_
      refine V_aload_n (j := 0) C d_X9_hasPlaces_13 rfl rfl ?_
      refine V_getI C ck_9 fw_X9_33 d_X9_hasPlaces_14 h (fun v2 o2 h => ?_)
      refine V_iload_n (j := 1) C d_X9_hasPlaces_17 rfl rfl ?_
      refine V_isub C d_X9_hasPlaces_18 ?_
      refine V_icmp_gt (tgt := 26) C d_X9_hasPlaces_19 (by decide) o_x2 (ok_wr _) h (fun h => ?_) (fun h => ?_)
      · skip
        refine V_iconst C d_X9_hasPlaces_22 ?_
        refine V_goto (tgt := 27) C d_X9_hasPlaces_23 (by decide) ?_
        exact V_zret_r C hR d_X9_hasPlaces_27 (Or.inr rfl) h
      · skip
        refine V_iconst C d_X9_hasPlaces_26 ?_
        exact V_zret_r C hR d_X9_hasPlaces_27 (Or.inl rfl) h
    · skip
      refine V_iconst C d_X9_hasPlaces_26 ?_
      exact V_zret_r C hR d_X9_hasPlaces_27 (Or.inl rfl) h
set_option maxHeartbeats 4000000 in
set_option maxRecDepth 100000 in
theorem ct_X9_hasPlaces {l : Launch} {G : GT_g} {M : Mem_m} (x0 : Nat) (x1 : Int) (x2 : Int) (o_x1 : ok_i x1) (o_x2 : ok_i x2) {z : Int} (h : f_X9_hasPlaces G.2.2.2 M x0 x1 x2 = some z) : MI_ l yX9_hasPlaces K_X9_hasPlaces (some .boolean) G M [.ref (G.1 + x0), iv_i x1, iv_i x2] M z :=
  met_of (by decide +kernel) rfl (Nat.le_of_ble_eq_true rfl) (fun X hl C hR => by subst hl; exact t_X9_hasPlaces C hR x0 x1 x2 o_x1 o_x2 h)
theorem d_X9_refusalOfNote_0 : decode cX9_refusalOfNote 0 = .ok (.aload_n 0, 1) := by decide +kernel
theorem d_X9_refusalOfNote_1 : decode cX9_refusalOfNote 1 = .ok (.getfield 11, 3) := by decide +kernel
theorem d_X9_refusalOfNote_4 : decode cX9_refusalOfNote 4 = .ok (.ifCond .ne 6, 3) := by decide +kernel
theorem d_X9_refusalOfNote_7 : decode cX9_refusalOfNote 7 = .ok (.bipush (-11), 2) := by decide +kernel
theorem d_X9_refusalOfNote_9 : decode cX9_refusalOfNote 9 = .ok (.ireturn, 1) := by decide +kernel
theorem d_X9_refusalOfNote_10 : decode cX9_refusalOfNote 10 = .ok (.aload_n 0, 1) := by decide +kernel
theorem d_X9_refusalOfNote_11 : decode cX9_refusalOfNote 11 = .ok (.getfield 11, 3) := by decide +kernel
theorem d_X9_refusalOfNote_14 : decode cX9_refusalOfNote 14 = .ok (.iconst 1, 1) := by decide +kernel
theorem d_X9_refusalOfNote_15 : decode cX9_refusalOfNote 15 = .ok (.if_icmp .ne 7, 3) := by decide +kernel
theorem d_X9_refusalOfNote_18 : decode cX9_refusalOfNote 18 = .ok (.iconst 0, 1) := by decide +kernel
theorem d_X9_refusalOfNote_19 : decode cX9_refusalOfNote 19 = .ok (.goto 5, 3) := by decide +kernel
theorem d_X9_refusalOfNote_22 : decode cX9_refusalOfNote 22 = .ok (.bipush (-12), 2) := by decide +kernel
theorem d_X9_refusalOfNote_24 : decode cX9_refusalOfNote 24 = .ok (.ireturn, 1) := by decide +kernel
set_option maxHeartbeats 4000000 in
set_option maxRecDepth 100000 in
theorem t_X9_refusalOfNote {X : XT_x} {G : GT_g} {M : Mem_m} {z : Int} (C : Cx_ (K_X9_refusalOfNote) X G) (hR : Rx_ X G (some .int)) (x0 : Nat)  (h : f_X9_refusalOfNote G.2.2.2 M x0 = some z) : V_ (K_X9_refusalOfNote) X G (Fq_ X G (Qi_ G M z)) M 0 [(0, .ref (G.1 + x0))] [] := by
  unfold f_X9_refusalOfNote at h
  refine V_aload_n (j := 0) C d_X9_refusalOfNote_0 rfl rfl ?_
  refine V_getI C ck_9 fw_X9_11 d_X9_refusalOfNote_1 h (fun v1 o1 h => ?_)
  refine V_if_ne (tgt := 10) C d_X9_refusalOfNote_4 (by decide) o1 h (fun h => ?_) (fun h => ?_)
  · skip
    refine V_bipush (v := (-11)) C d_X9_refusalOfNote_7 rfl ?_
    exact V_iret_r C hR d_X9_refusalOfNote_9 (okc rfl) h
  · skip
    refine V_aload_n (j := 0) C d_X9_refusalOfNote_10 rfl rfl ?_
    refine V_getI C ck_9 fw_X9_11 d_X9_refusalOfNote_11 h (fun v2 o2 h => ?_)
    refine V_iconst C d_X9_refusalOfNote_14 ?_
    refine V_icmp_ne (tgt := 22) C d_X9_refusalOfNote_15 (by decide) o2 (okc rfl) h (fun h => ?_) (fun h => ?_)
    · skip
      refine V_iconst C d_X9_refusalOfNote_18 ?_
      refine V_goto (tgt := 24) C d_X9_refusalOfNote_19 (by decide) ?_
      exact V_iret_r C hR d_X9_refusalOfNote_24 (okc rfl) h
    · skip
      refine V_bipush (v := (-12)) C d_X9_refusalOfNote_22 rfl ?_
      exact V_iret_r C hR d_X9_refusalOfNote_24 (okc rfl) h
set_option maxHeartbeats 4000000 in
set_option maxRecDepth 100000 in
theorem ct_X9_refusalOfNote {l : Launch} {G : GT_g} {M : Mem_m} (x0 : Nat)  {z : Int} (h : f_X9_refusalOfNote G.2.2.2 M x0 = some z) : MI_ l yX9_refusalOfNote K_X9_refusalOfNote (some .int) G M [.ref (G.1 + x0)] M z :=
  met_of (by decide +kernel) rfl (Nat.le_of_ble_eq_true rfl) (fun X hl C hR => by subst hl; exact t_X9_refusalOfNote C hR x0  h)
theorem d_X9_refusalOfRow_0 : decode cX9_refusalOfRow 0 = .ok (.aload_n 0, 1) := by decide +kernel
theorem d_X9_refusalOfRow_1 : decode cX9_refusalOfRow 1 = .ok (.getfield 11, 3) := by decide +kernel
theorem d_X9_refusalOfRow_4 : decode cX9_refusalOfRow 4 = .ok (.ifCond .ne 6, 3) := by decide +kernel
theorem d_X9_refusalOfRow_7 : decode cX9_refusalOfRow 7 = .ok (.bipush (-11), 2) := by decide +kernel
theorem d_X9_refusalOfRow_9 : decode cX9_refusalOfRow 9 = .ok (.ireturn, 1) := by decide +kernel
theorem d_X9_refusalOfRow_10 : decode cX9_refusalOfRow 10 = .ok (.aload_n 0, 1) := by decide +kernel
theorem d_X9_refusalOfRow_11 : decode cX9_refusalOfRow 11 = .ok (.getfield 11, 3) := by decide +kernel
theorem d_X9_refusalOfRow_14 : decode cX9_refusalOfRow 14 = .ok (.iconst 2, 1) := by decide +kernel
theorem d_X9_refusalOfRow_15 : decode cX9_refusalOfRow 15 = .ok (.if_icmp .ne 7, 3) := by decide +kernel
theorem d_X9_refusalOfRow_18 : decode cX9_refusalOfRow 18 = .ok (.iconst 0, 1) := by decide +kernel
theorem d_X9_refusalOfRow_19 : decode cX9_refusalOfRow 19 = .ok (.goto 5, 3) := by decide +kernel
theorem d_X9_refusalOfRow_22 : decode cX9_refusalOfRow 22 = .ok (.bipush (-12), 2) := by decide +kernel
theorem d_X9_refusalOfRow_24 : decode cX9_refusalOfRow 24 = .ok (.ireturn, 1) := by decide +kernel
set_option maxHeartbeats 4000000 in
set_option maxRecDepth 100000 in
theorem t_X9_refusalOfRow {X : XT_x} {G : GT_g} {M : Mem_m} {z : Int} (C : Cx_ (K_X9_refusalOfRow) X G) (hR : Rx_ X G (some .int)) (x0 : Nat)  (h : f_X9_refusalOfRow G.2.2.2 M x0 = some z) : V_ (K_X9_refusalOfRow) X G (Fq_ X G (Qi_ G M z)) M 0 [(0, .ref (G.1 + x0))] [] := by
  unfold f_X9_refusalOfRow at h
  refine V_aload_n (j := 0) C d_X9_refusalOfRow_0 rfl rfl ?_
  refine V_getI C ck_9 fw_X9_11 d_X9_refusalOfRow_1 h (fun v1 o1 h => ?_)
  refine V_if_ne (tgt := 10) C d_X9_refusalOfRow_4 (by decide) o1 h (fun h => ?_) (fun h => ?_)
  · skip
    refine V_bipush (v := (-11)) C d_X9_refusalOfRow_7 rfl ?_
    exact V_iret_r C hR d_X9_refusalOfRow_9 (okc rfl) h
  · skip
    refine V_aload_n (j := 0) C d_X9_refusalOfRow_10 rfl rfl ?_
    refine V_getI C ck_9 fw_X9_11 d_X9_refusalOfRow_11 h (fun v2 o2 h => ?_)
    refine V_iconst C d_X9_refusalOfRow_14 ?_
    refine V_icmp_ne (tgt := 22) C d_X9_refusalOfRow_15 (by decide) o2 (okc rfl) h (fun h => ?_) (fun h => ?_)
    · skip
      refine V_iconst C d_X9_refusalOfRow_18 ?_
      refine V_goto (tgt := 24) C d_X9_refusalOfRow_19 (by decide) ?_
      exact V_iret_r C hR d_X9_refusalOfRow_24 (okc rfl) h
    · skip
      refine V_bipush (v := (-12)) C d_X9_refusalOfRow_22 rfl ?_
      exact V_iret_r C hR d_X9_refusalOfRow_24 (okc rfl) h
set_option maxHeartbeats 4000000 in
set_option maxRecDepth 100000 in
theorem ct_X9_refusalOfRow {l : Launch} {G : GT_g} {M : Mem_m} (x0 : Nat)  {z : Int} (h : f_X9_refusalOfRow G.2.2.2 M x0 = some z) : MI_ l yX9_refusalOfRow K_X9_refusalOfRow (some .int) G M [.ref (G.1 + x0)] M z :=
  met_of (by decide +kernel) rfl (Nat.le_of_ble_eq_true rfl) (fun X hl C hR => by subst hl; exact t_X9_refusalOfRow C hR x0  h)
theorem d_X9_refusalOfBytes_0 : decode cX9_refusalOfBytes 0 = .ok (.aload_n 0, 1) := by decide +kernel
theorem d_X9_refusalOfBytes_1 : decode cX9_refusalOfBytes 1 = .ok (.invokevirtual 42, 3) := by decide +kernel
theorem d_X9_refusalOfBytes_4 : decode cX9_refusalOfBytes 4 = .ok (.istore_n 1, 1) := by decide +kernel
theorem d_X9_refusalOfBytes_5 : decode cX9_refusalOfBytes 5 = .ok (.iload_n 1, 1) := by decide +kernel
theorem d_X9_refusalOfBytes_6 : decode cX9_refusalOfBytes 6 = .ok (.ifCond .eq 5, 3) := by decide +kernel
theorem d_X9_refusalOfBytes_9 : decode cX9_refusalOfBytes 9 = .ok (.iload_n 1, 1) := by decide +kernel
theorem d_X9_refusalOfBytes_10 : decode cX9_refusalOfBytes 10 = .ok (.ireturn, 1) := by decide +kernel
theorem d_X9_refusalOfBytes_11 : decode cX9_refusalOfBytes 11 = .ok (.aload_n 0, 1) := by decide +kernel
theorem d_X9_refusalOfBytes_12 : decode cX9_refusalOfBytes 12 = .ok (.getfield 30, 3) := by decide +kernel
theorem d_X9_refusalOfBytes_15 : decode cX9_refusalOfBytes 15 = .ok (.ifCond .ne 7, 3) := by decide +kernel
theorem d_X9_refusalOfBytes_18 : decode cX9_refusalOfBytes 18 = .ok (.iconst 0, 1) := by decide +kernel
theorem d_X9_refusalOfBytes_19 : decode cX9_refusalOfBytes 19 = .ok (.goto 5, 3) := by decide +kernel
theorem d_X9_refusalOfBytes_22 : decode cX9_refusalOfBytes 22 = .ok (.bipush (-12), 2) := by decide +kernel
theorem d_X9_refusalOfBytes_24 : decode cX9_refusalOfBytes 24 = .ok (.ireturn, 1) := by decide +kernel
set_option maxHeartbeats 4000000 in
set_option maxRecDepth 100000 in
theorem t_X9_refusalOfBytes {X : XT_x} {G : GT_g} {M : Mem_m} {z : Int} (C : Cx_ (K_X9_refusalOfBytes) X G) (hR : Rx_ X G (some .int)) (x0 : Nat)  (h : f_X9_refusalOfBytes G.2.2.2 M x0 = some z) : V_ (K_X9_refusalOfBytes) X G (Fq_ X G (Qi_ G M z)) M 0 [(0, .ref (G.1 + x0))] [] := by
  unfold f_X9_refusalOfBytes at h
  refine V_aload_n (j := 0) C d_X9_refusalOfBytes_0 rfl rfl ?_
  refine V_callVri (K' := K_X9_refusalOfRow) (a := x0) (ci := 9) (av := []) (rest := []) yi_X9_refusalOfRow (by decide) rfl C (yk_X9_refusalOfRow) l1_X9_42 (by decide) d_X9_refusalOfBytes_1 (fun v hv => ct_X9_refusalOfRow x0 hv) rfl rfl (Nat.le_of_ble_eq_true rfl) h (fun v1 o1 h => ?_)
  refine V_istore_n (lv' := [(1, iv_i v1), (0, .ref (G.1 + x0))]) C d_X9_refusalOfBytes_4 rfl (by decide) rfl ?_
  refine V_iload_n (j := 0) C d_X9_refusalOfBytes_5 rfl rfl ?_
  refine V_if_eq (tgt := 11) C d_X9_refusalOfBytes_6 (by decide) o1 h (fun h => ?_) (fun h => ?_)
  · skip
    refine V_aload_n (j := 1) C d_X9_refusalOfBytes_11 rfl rfl ?_
    refine V_getI C ck_9 fw_X9_30 d_X9_refusalOfBytes_12 h (fun v2 o2 h => ?_)
    refine V_if_ne (tgt := 22) C d_X9_refusalOfBytes_15 (by decide) o2 h (fun h => ?_) (fun h => ?_)
    · skip
      refine V_iconst C d_X9_refusalOfBytes_18 ?_
      refine V_goto (tgt := 24) C d_X9_refusalOfBytes_19 (by decide) ?_
      exact V_iret_r C hR d_X9_refusalOfBytes_24 (okc rfl) h
    · skip
      refine V_bipush (v := (-12)) C d_X9_refusalOfBytes_22 rfl ?_
      exact V_iret_r C hR d_X9_refusalOfBytes_24 (okc rfl) h
  · skip
    refine V_iload_n (j := 0) C d_X9_refusalOfBytes_9 rfl rfl ?_
    exact V_iret_r C hR d_X9_refusalOfBytes_10 o1 h
set_option maxHeartbeats 4000000 in
set_option maxRecDepth 100000 in
theorem ct_X9_refusalOfBytes {l : Launch} {G : GT_g} {M : Mem_m} (x0 : Nat)  {z : Int} (h : f_X9_refusalOfBytes G.2.2.2 M x0 = some z) : MI_ l yX9_refusalOfBytes K_X9_refusalOfBytes (some .int) G M [.ref (G.1 + x0)] M z :=
  met_of (by decide +kernel) rfl (Nat.le_of_ble_eq_true rfl) (fun X hl C hR => by subst hl; exact t_X9_refusalOfBytes C hR x0  h)
theorem d_X9_refusalOfSounds_0 : decode cX9_refusalOfSounds 0 = .ok (.aload_n 0, 1) := by decide +kernel
theorem d_X9_refusalOfSounds_1 : decode cX9_refusalOfSounds 1 = .ok (.invokevirtual 46, 3) := by decide +kernel
theorem d_X9_refusalOfSounds_4 : decode cX9_refusalOfSounds 4 = .ok (.istore_n 3, 1) := by decide +kernel
theorem d_X9_refusalOfSounds_5 : decode cX9_refusalOfSounds 5 = .ok (.iload_n 3, 1) := by decide +kernel
theorem d_X9_refusalOfSounds_6 : decode cX9_refusalOfSounds 6 = .ok (.ifCond .eq 5, 3) := by decide +kernel
theorem d_X9_refusalOfSounds_9 : decode cX9_refusalOfSounds 9 = .ok (.iload_n 3, 1) := by decide +kernel
theorem d_X9_refusalOfSounds_10 : decode cX9_refusalOfSounds 10 = .ok (.ireturn, 1) := by decide +kernel
theorem d_X9_refusalOfSounds_11 : decode cX9_refusalOfSounds 11 = .ok (.aload_n 0, 1) := by decide +kernel
theorem d_X9_refusalOfSounds_12 : decode cX9_refusalOfSounds 12 = .ok (.getfield 33, 3) := by decide +kernel
theorem d_X9_refusalOfSounds_15 : decode cX9_refusalOfSounds 15 = .ok (.iload_n 1, 1) := by decide +kernel
theorem d_X9_refusalOfSounds_16 : decode cX9_refusalOfSounds 16 = .ok (.if_icmp .lt 11, 3) := by decide +kernel
theorem d_X9_refusalOfSounds_19 : decode cX9_refusalOfSounds 19 = .ok (.aload_n 0, 1) := by decide +kernel
theorem d_X9_refusalOfSounds_20 : decode cX9_refusalOfSounds 20 = .ok (.getfield 33, 3) := by decide +kernel
theorem d_X9_refusalOfSounds_23 : decode cX9_refusalOfSounds 23 = .ok (.iload_n 2, 1) := by decide +kernel
theorem d_X9_refusalOfSounds_24 : decode cX9_refusalOfSounds 24 = .ok (.if_icmp .le 6, 3) := by decide +kernel
theorem d_X9_refusalOfSounds_27 : decode cX9_refusalOfSounds 27 = .ok (.bipush (-13), 2) := by decide +kernel
theorem d_X9_refusalOfSounds_29 : decode cX9_refusalOfSounds 29 = .ok (.ireturn, 1) := by decide +kernel
theorem d_X9_refusalOfSounds_30 : decode cX9_refusalOfSounds 30 = .ok (.iconst 0, 1) := by decide +kernel
theorem d_X9_refusalOfSounds_31 : decode cX9_refusalOfSounds 31 = .ok (.istore 4, 2) := by decide +kernel
theorem d_X9_refusalOfSounds_33 : decode cX9_refusalOfSounds 33 = .ok (.iload 4, 2) := by decide +kernel
theorem d_X9_refusalOfSounds_35 : decode cX9_refusalOfSounds 35 = .ok (.aload_n 0, 1) := by decide +kernel
theorem d_X9_refusalOfSounds_36 : decode cX9_refusalOfSounds 36 = .ok (.getfield 33, 3) := by decide +kernel
theorem d_X9_refusalOfSounds_39 : decode cX9_refusalOfSounds 39 = .ok (.if_icmp .ge 27, 3) := by decide +kernel
theorem d_X9_refusalOfSounds_42 : decode cX9_refusalOfSounds 42 = .ok (.aload_n 0, 1) := by decide +kernel
theorem d_X9_refusalOfSounds_43 : decode cX9_refusalOfSounds 43 = .ok (.getfield 22, 3) := by decide +kernel
theorem d_X9_refusalOfSounds_46 : decode cX9_refusalOfSounds 46 = .ok (.iload 4, 2) := by decide +kernel
theorem d_X9_refusalOfSounds_48 : decode cX9_refusalOfSounds 48 = .ok (.iaload, 1) := by decide +kernel
theorem d_X9_refusalOfSounds_49 : decode cX9_refusalOfSounds 49 = .ok (.bipush 10, 2) := by decide +kernel
theorem d_X9_refusalOfSounds_51 : decode cX9_refusalOfSounds 51 = .ok (.invokestatic 49, 3) := by decide +kernel
theorem d_X9_refusalOfSounds_54 : decode cX9_refusalOfSounds 54 = .ok (.ifCond .ne 6, 3) := by decide +kernel
theorem d_X9_refusalOfSounds_57 : decode cX9_refusalOfSounds 57 = .ok (.bipush (-13), 2) := by decide +kernel
theorem d_X9_refusalOfSounds_59 : decode cX9_refusalOfSounds 59 = .ok (.ireturn, 1) := by decide +kernel
theorem d_X9_refusalOfSounds_60 : decode cX9_refusalOfSounds 60 = .ok (.iinc 4 1, 3) := by decide +kernel
theorem d_X9_refusalOfSounds_63 : decode cX9_refusalOfSounds 63 = .ok (.goto (-30), 3) := by decide +kernel
theorem d_X9_refusalOfSounds_66 : decode cX9_refusalOfSounds 66 = .ok (.iconst 0, 1) := by decide +kernel
theorem d_X9_refusalOfSounds_67 : decode cX9_refusalOfSounds 67 = .ok (.ireturn, 1) := by decide +kernel
set_option maxHeartbeats 4000000 in
set_option maxRecDepth 100000 in
theorem t_X9_refusalOfSounds_33 {X : XT_x} {G : GT_g} {z : Int} (C : Cx_ (K_X9_refusalOfSounds) X G) (hR : Rx_ X G (some .int)) (M : Mem_m) (x0 : Nat) : ∀ (n : Nat) (x4 : Int) (o_x4 : ok_i x4), f_X9_refusalOfSounds_33 G.2.2.2 M x0 n x4 = some z → V_ (K_X9_refusalOfSounds) X G (Fq_ X G (Qi_ G M z)) M 33 [(0, .ref (G.1 + x0)), (4, iv_i x4)] [] := by
  intro n
  induction n with
  | zero => intro x4 o_x4 h; exact absurd h (by simp [f_X9_refusalOfSounds_33])
  | succ n ih =>
    intro x4 o_x4 h
    unfold f_X9_refusalOfSounds_33 at h
    refine V_iload (j := 1) C d_X9_refusalOfSounds_33 rfl ?_
    refine V_aload_n (j := 0) C d_X9_refusalOfSounds_35 rfl rfl ?_
    refine V_getI C ck_9 fw_X9_33 d_X9_refusalOfSounds_36 h (fun v1 o1 h => ?_)
    refine V_icmp_ge (tgt := 66) C d_X9_refusalOfSounds_39 (by decide) o_x4 o1 h (fun h => ?_) (fun h => ?_)
    · skip
      refine V_aload_n (j := 0) C d_X9_refusalOfSounds_42 rfl rfl ?_
      refine V_getR C ck_9 fw_X9_22 d_X9_refusalOfSounds_43 h (fun v2 h => ?_)
      refine V_iload (j := 1) C d_X9_refusalOfSounds_46 rfl ?_
      refine V_iald C d_X9_refusalOfSounds_48 o_x4 h (fun v3 o3 h => ?_)
      refine V_bipush (v := 10) C d_X9_refusalOfSounds_49 rfl ?_
      refine V_callNri (K' := K_X11_isIn) (av := [iv_i v3, iv_i 10]) (rest := []) ys_X11_isIn C (yk_X11_isIn) l2_X9_49 (by decide) d_X9_refusalOfSounds_51 (fun v hv => ct_X11_isIn v3 10 o3 (okc rfl) hv) rfl rfl (Nat.le_of_ble_eq_true rfl) h (fun v4 o4 h => ?_)
      refine V_if_ne (tgt := 60) C d_X9_refusalOfSounds_54 (by decide) o4 h (fun h => ?_) (fun h => ?_)
      · skip
        refine V_bipush (v := (-13)) C d_X9_refusalOfSounds_57 rfl ?_
        exact V_iret_r C hR d_X9_refusalOfSounds_59 (okc rfl) h
      · skip
        refine V_iinc (j := 1) (lv' := [(4, iv_i (wr_i (x4 + 1))), (0, .ref (G.1 + x0))]) C d_X9_refusalOfSounds_60 rfl (by decide) rfl ?_
        refine V_goto (tgt := 33) C d_X9_refusalOfSounds_63 (by decide) ?_
        refine V_lv [1, 0] rfl (ih (wr_i (x4 + 1)) (ok_wr _) h)
    · skip
      refine V_iconst C d_X9_refusalOfSounds_66 ?_
      exact V_iret_r C hR d_X9_refusalOfSounds_67 (okc rfl) h
set_option maxHeartbeats 4000000 in
set_option maxRecDepth 100000 in
theorem t_X9_refusalOfSounds {X : XT_x} {G : GT_g} {M : Mem_m} {z : Int} (C : Cx_ (K_X9_refusalOfSounds) X G) (hR : Rx_ X G (some .int)) (x0 : Nat) (x1 : Int) (x2 : Int) (o_x1 : ok_i x1) (o_x2 : ok_i x2) (h : f_X9_refusalOfSounds G.2.2.2 M x0 x1 x2 = some z) : V_ (K_X9_refusalOfSounds) X G (Fq_ X G (Qi_ G M z)) M 0 [(0, .ref (G.1 + x0)), (1, iv_i x1), (2, iv_i x2)] [] := by
  unfold f_X9_refusalOfSounds at h
  refine V_aload_n (j := 0) C d_X9_refusalOfSounds_0 rfl rfl ?_
  refine V_callVri (K' := K_X9_refusalOfBytes) (a := x0) (ci := 9) (av := []) (rest := []) yi_X9_refusalOfBytes (by decide) rfl C (yk_X9_refusalOfBytes) l1_X9_46 (by decide) d_X9_refusalOfSounds_1 (fun v hv => ct_X9_refusalOfBytes x0 hv) rfl rfl (Nat.le_of_ble_eq_true rfl) h (fun v1 o1 h => ?_)
  refine V_istore_n (lv' := [(3, iv_i v1), (0, .ref (G.1 + x0)), (1, iv_i x1), (2, iv_i x2)]) C d_X9_refusalOfSounds_4 rfl (by decide) rfl ?_
  refine V_iload_n (j := 0) C d_X9_refusalOfSounds_5 rfl rfl ?_
  refine V_if_eq (tgt := 11) C d_X9_refusalOfSounds_6 (by decide) o1 h (fun h => ?_) (fun h => ?_)
  · skip
    refine V_aload_n (j := 1) C d_X9_refusalOfSounds_11 rfl rfl ?_
    refine V_getI C ck_9 fw_X9_33 d_X9_refusalOfSounds_12 h (fun v2 o2 h => ?_)
    refine V_iload_n (j := 2) C d_X9_refusalOfSounds_15 rfl rfl ?_
    refine V_icmp_lt (tgt := 27) C d_X9_refusalOfSounds_16 (by decide) o2 o_x1 h (fun h => ?_) (fun h => ?_)
    · skip
      refine V_bipush (v := (-13)) C d_X9_refusalOfSounds_27 rfl ?_
      exact V_iret_r C hR d_X9_refusalOfSounds_29 (okc rfl) h
    · skip
      refine V_aload_n (j := 1) C d_X9_refusalOfSounds_19 rfl rfl ?_
      refine V_getI C ck_9 fw_X9_33 d_X9_refusalOfSounds_20 h (fun v3 o3 h => ?_)
      refine V_iload_n (j := 3) C d_X9_refusalOfSounds_23 rfl rfl ?_
      refine V_icmp_le (tgt := 30) C d_X9_refusalOfSounds_24 (by decide) o3 o_x2 h (fun h => ?_) (fun h => ?_)
      · skip
        refine V_iconst C d_X9_refusalOfSounds_30 ?_
        refine V_istore (lv' := [(4, iv_i 0), (3, iv_i v1), (0, .ref (G.1 + x0)), (1, iv_i x1), (2, iv_i x2)]) C d_X9_refusalOfSounds_31 (by decide) rfl ?_
        refine V_lv [2, 0] rfl (t_X9_refusalOfSounds_33 C hR M x0 FU_ 0 (okc rfl) h)
      · skip
        refine V_bipush (v := (-13)) C d_X9_refusalOfSounds_27 rfl ?_
        exact V_iret_r C hR d_X9_refusalOfSounds_29 (okc rfl) h
  · skip
    refine V_iload_n (j := 0) C d_X9_refusalOfSounds_9 rfl rfl ?_
    exact V_iret_r C hR d_X9_refusalOfSounds_10 o1 h
set_option maxHeartbeats 4000000 in
set_option maxRecDepth 100000 in
theorem ct_X9_refusalOfSounds {l : Launch} {G : GT_g} {M : Mem_m} (x0 : Nat) (x1 : Int) (x2 : Int) (o_x1 : ok_i x1) (o_x2 : ok_i x2) {z : Int} (h : f_X9_refusalOfSounds G.2.2.2 M x0 x1 x2 = some z) : MI_ l yX9_refusalOfSounds K_X9_refusalOfSounds (some .int) G M [.ref (G.1 + x0), iv_i x1, iv_i x2] M z :=
  met_of (by decide +kernel) rfl (Nat.le_of_ble_eq_true rfl) (fun X hl C hR => by subst hl; exact t_X9_refusalOfSounds C hR x0 x1 x2 o_x1 o_x2 h)
theorem d_X10_isLike_0 : decode cX10_isLike 0 = .ok (.aload_n 0, 1) := by decide +kernel
theorem d_X10_isLike_1 : decode cX10_isLike 1 = .ok (.getfield 15, 3) := by decide +kernel
theorem d_X10_isLike_4 : decode cX10_isLike 4 = .ok (.aload_n 1, 1) := by decide +kernel
theorem d_X10_isLike_5 : decode cX10_isLike 5 = .ok (.getfield 15, 3) := by decide +kernel
theorem d_X10_isLike_8 : decode cX10_isLike 8 = .ok (.if_icmp .ne 16, 3) := by decide +kernel
theorem d_X10_isLike_11 : decode cX10_isLike 11 = .ok (.aload_n 1, 1) := by decide +kernel
theorem d_X10_isLike_12 : decode cX10_isLike 12 = .ok (.iconst 0, 1) := by decide +kernel
theorem d_X10_isLike_13 : decode cX10_isLike 13 = .ok (.aload_n 0, 1) := by decide +kernel
theorem d_X10_isLike_14 : decode cX10_isLike 14 = .ok (.invokevirtual 38, 3) := by decide +kernel
theorem d_X10_isLike_17 : decode cX10_isLike 17 = .ok (.ifCond .eq 7, 3) := by decide +kernel
theorem d_X10_isLike_20 : decode cX10_isLike 20 = .ok (.iconst 1, 1) := by decide +kernel
theorem d_X10_isLike_21 : decode cX10_isLike 21 = .ok (.goto 4, 3) := by decide +kernel
theorem d_X10_isLike_24 : decode cX10_isLike 24 = .ok (.iconst 0, 1) := by decide +kernel
theorem d_X10_isLike_25 : decode cX10_isLike 25 = .ok (.ireturn, 1) := by decide +kernel
set_option maxHeartbeats 4000000 in
set_option maxRecDepth 100000 in
theorem t_X10_isLike {X : XT_x} {G : GT_g} {M : Mem_m} {z : Int} (C : Cx_ (K_X10_isLike) X G) (hR : Rx_ X G (some .boolean)) (x0 : Nat) (x1 : Nat)  (h : f_X10_isLike G.2.2.2 M x0 x1 = some z) : V_ (K_X10_isLike) X G (Fq_ X G (Qi_ G M z)) M 0 [(0, .ref (G.1 + x0)), (1, .ref (G.1 + x1))] [] := by
  unfold f_X10_isLike at h
  refine V_aload_n (j := 0) C d_X10_isLike_0 rfl rfl ?_
  refine V_getI C ck_10 fw_X10_15 d_X10_isLike_1 h (fun v1 o1 h => ?_)
  refine V_aload_n (j := 1) C d_X10_isLike_4 rfl rfl ?_
  refine V_getI C ck_10 fw_X10_15 d_X10_isLike_5 h (fun v2 o2 h => ?_)
  refine V_icmp_ne (tgt := 24) C d_X10_isLike_8 (by decide) o1 o2 h (fun h => ?_) (fun h => ?_)
  · skip
    refine V_aload_n (j := 1) C d_X10_isLike_11 rfl rfl ?_
    refine V_iconst C d_X10_isLike_12 ?_
    refine V_aload_n (j := 0) C d_X10_isLike_13 rfl rfl ?_
    refine V_callVri (K' := K_X10_standsAt) (a := x1) (ci := 10) (av := [iv_i 0, .ref (G.1 + x0)]) (rest := []) yi_X10_standsAt (by decide) rfl C (yk_X10_standsAt) l1_X10_38 (by decide) d_X10_isLike_14 (fun v hv => ct_X10_standsAt x1 0 x0 (okc rfl) hv) rfl rfl (Nat.le_of_ble_eq_true rfl) h (fun v3 o3 h => ?_)
    refine V_if_eq (tgt := 24) C d_X10_isLike_17 (by decide) o3 h (fun h => ?_) (fun h => ?_)
    · skip
      refine V_iconst C d_X10_isLike_24 ?_
      exact V_zret_r C hR d_X10_isLike_25 (Or.inl rfl) h
    · skip
      refine V_iconst C d_X10_isLike_20 ?_
      refine V_goto (tgt := 25) C d_X10_isLike_21 (by decide) ?_
      exact V_zret_r C hR d_X10_isLike_25 (Or.inr rfl) h
  · skip
    refine V_iconst C d_X10_isLike_24 ?_
    exact V_zret_r C hR d_X10_isLike_25 (Or.inl rfl) h
set_option maxHeartbeats 4000000 in
set_option maxRecDepth 100000 in
theorem ct_X10_isLike {l : Launch} {G : GT_g} {M : Mem_m} (x0 : Nat) (x1 : Nat)  {z : Int} (h : f_X10_isLike G.2.2.2 M x0 x1 = some z) : MI_ l yX10_isLike K_X10_isLike (some .boolean) G M [.ref (G.1 + x0), .ref (G.1 + x1)] M z :=
  met_of (by decide +kernel) rfl (Nat.le_of_ble_eq_true rfl) (fun X hl C hR => by subst hl; exact t_X10_isLike C hR x0 x1  h)
theorem d_X11_isTold_0 : decode cX11_isTold 0 = .ok (.iload_n 0, 1) := by decide +kernel
theorem d_X11_isTold_1 : decode cX11_isTold 1 = .ok (.sipush 800, 3) := by decide +kernel
theorem d_X11_isTold_4 : decode cX11_isTold 4 = .ok (.invokestatic 61, 3) := by decide +kernel
theorem d_X11_isTold_7 : decode cX11_isTold 7 = .ok (.ifCond .eq 26, 3) := by decide +kernel
theorem d_X11_isTold_10 : decode cX11_isTold 10 = .ok (.iload_n 0, 1) := by decide +kernel
theorem d_X11_isTold_11 : decode cX11_isTold 11 = .ok (.bipush 10, 2) := by decide +kernel
theorem d_X11_isTold_13 : decode cX11_isTold 13 = .ok (.idiv, 1) := by decide +kernel
theorem d_X11_isTold_14 : decode cX11_isTold 14 = .ok (.bipush 10, 2) := by decide +kernel
theorem d_X11_isTold_16 : decode cX11_isTold 16 = .ok (.irem, 1) := by decide +kernel
theorem d_X11_isTold_17 : decode cX11_isTold 17 = .ok (.iconst 4, 1) := by decide +kernel
theorem d_X11_isTold_18 : decode cX11_isTold 18 = .ok (.if_icmp .ge 15, 3) := by decide +kernel
theorem d_X11_isTold_21 : decode cX11_isTold 21 = .ok (.iload_n 0, 1) := by decide +kernel
theorem d_X11_isTold_22 : decode cX11_isTold 22 = .ok (.bipush 10, 2) := by decide +kernel
theorem d_X11_isTold_24 : decode cX11_isTold 24 = .ok (.irem, 1) := by decide +kernel
theorem d_X11_isTold_25 : decode cX11_isTold 25 = .ok (.iconst 2, 1) := by decide +kernel
theorem d_X11_isTold_26 : decode cX11_isTold 26 = .ok (.if_icmp .ge 7, 3) := by decide +kernel
theorem d_X11_isTold_29 : decode cX11_isTold 29 = .ok (.iconst 1, 1) := by decide +kernel
theorem d_X11_isTold_30 : decode cX11_isTold 30 = .ok (.goto 4, 3) := by decide +kernel
theorem d_X11_isTold_33 : decode cX11_isTold 33 = .ok (.iconst 0, 1) := by decide +kernel
theorem d_X11_isTold_34 : decode cX11_isTold 34 = .ok (.ireturn, 1) := by decide +kernel
set_option maxHeartbeats 4000000 in
set_option maxRecDepth 100000 in
theorem t_X11_isTold {X : XT_x} {G : GT_g} {M : Mem_m} {z : Int} (C : Cx_ (K_X11_isTold) X G) (hR : Rx_ X G (some .boolean)) (x0 : Int) (o_x0 : ok_i x0) (h : f_X11_isTold G.2.2.2 M x0 = some z) : V_ (K_X11_isTold) X G (Fq_ X G (Qi_ G M z)) M 0 [(0, iv_i x0)] [] := by
  unfold f_X11_isTold at h
  refine V_iload_n (j := 0) C d_X11_isTold_0 rfl rfl ?_
  refine V_sipush (v := 800) C d_X11_isTold_1 rfl ?_
  refine V_callSri (K' := K_X11_isIn) (av := [iv_i x0, iv_i 800]) (rest := []) ys_X11_isIn C (yk_X11_isIn) l1_X11_61 (by decide) d_X11_isTold_4 (fun v hv => ct_X11_isIn x0 800 o_x0 (okc rfl) hv) rfl rfl (Nat.le_of_ble_eq_true rfl) h (fun v1 o1 h => ?_)
  refine V_if_eq (tgt := 33) C d_X11_isTold_7 (by decide) o1 h (fun h => ?_) (fun h => ?_)
  · skip
    refine V_iconst C d_X11_isTold_33 ?_
    exact V_zret_r C hR d_X11_isTold_34 (Or.inl rfl) h
  · skip
    refine V_iload_n (j := 0) C d_X11_isTold_10 rfl rfl ?_
    refine V_bipush (v := 10) C d_X11_isTold_11 rfl ?_
    refine V_idiv C d_X11_isTold_13 (okc rfl) h (fun h => ?_)
    refine V_bipush (v := 10) C d_X11_isTold_14 rfl ?_
    refine V_irem C d_X11_isTold_16 (okc rfl) h (fun h => ?_)
    refine V_iconst C d_X11_isTold_17 ?_
    refine V_icmp_ge (tgt := 33) C d_X11_isTold_18 (by decide) (ok_I _) (okc rfl) h (fun h => ?_) (fun h => ?_)
    · skip
      refine V_iload_n (j := 0) C d_X11_isTold_21 rfl rfl ?_
      refine V_bipush (v := 10) C d_X11_isTold_22 rfl ?_
      refine V_irem C d_X11_isTold_24 (okc rfl) h (fun h => ?_)
      refine V_iconst C d_X11_isTold_25 ?_
      refine V_icmp_ge (tgt := 33) C d_X11_isTold_26 (by decide) (ok_I _) (okc rfl) h (fun h => ?_) (fun h => ?_)
      · skip
        refine V_iconst C d_X11_isTold_29 ?_
        refine V_goto (tgt := 34) C d_X11_isTold_30 (by decide) ?_
        exact V_zret_r C hR d_X11_isTold_34 (Or.inr rfl) h
      · skip
        refine V_iconst C d_X11_isTold_33 ?_
        exact V_zret_r C hR d_X11_isTold_34 (Or.inl rfl) h
    · skip
      refine V_iconst C d_X11_isTold_33 ?_
      exact V_zret_r C hR d_X11_isTold_34 (Or.inl rfl) h
set_option maxHeartbeats 4000000 in
set_option maxRecDepth 100000 in
theorem ct_X11_isTold {l : Launch} {G : GT_g} {M : Mem_m} (x0 : Int) (o_x0 : ok_i x0) {z : Int} (h : f_X11_isTold G.2.2.2 M x0 = some z) : MI_ l yX11_isTold K_X11_isTold (some .boolean) G M [iv_i x0] M z :=
  met_of (by decide +kernel) rfl (Nat.le_of_ble_eq_true rfl) (fun X hl C hR => by subst hl; exact t_X11_isTold C hR x0 o_x0 h)
theorem d_X11_card_0 : decode cX11_card 0 = .ok (.iload_n 1, 1) := by decide +kernel
theorem d_X11_card_1 : decode cX11_card 1 = .ok (.bipush 8, 2) := by decide +kernel
theorem d_X11_card_3 : decode cX11_card 3 = .ok (.invokestatic 61, 3) := by decide +kernel
theorem d_X11_card_6 : decode cX11_card 6 = .ok (.ifCond .eq 31, 3) := by decide +kernel
theorem d_X11_card_9 : decode cX11_card 9 = .ok (.iload_n 2, 1) := by decide +kernel
theorem d_X11_card_10 : decode cX11_card 10 = .ok (.sipush 1024, 3) := by decide +kernel
theorem d_X11_card_13 : decode cX11_card 13 = .ok (.invokestatic 61, 3) := by decide +kernel
theorem d_X11_card_16 : decode cX11_card 16 = .ok (.ifCond .eq 21, 3) := by decide +kernel
theorem d_X11_card_19 : decode cX11_card 19 = .ok (.iload_n 3, 1) := by decide +kernel
theorem d_X11_card_20 : decode cX11_card 20 = .ok (.invokestatic 65, 3) := by decide +kernel
theorem d_X11_card_23 : decode cX11_card 23 = .ok (.ifCond .eq 14, 3) := by decide +kernel
theorem d_X11_card_26 : decode cX11_card 26 = .ok (.iload 4, 2) := by decide +kernel
theorem d_X11_card_28 : decode cX11_card 28 = .ok (.sipush 1000, 3) := by decide +kernel
theorem d_X11_card_31 : decode cX11_card 31 = .ok (.invokestatic 61, 3) := by decide +kernel
theorem d_X11_card_34 : decode cX11_card 34 = .ok (.ifCond .ne 5, 3) := by decide +kernel
theorem d_X11_card_37 : decode cX11_card 37 = .ok (.iconst (-1), 1) := by decide +kernel
theorem d_X11_card_38 : decode cX11_card 38 = .ok (.ireturn, 1) := by decide +kernel
theorem d_X11_card_39 : decode cX11_card 39 = .ok (.aload_n 0, 1) := by decide +kernel
theorem d_X11_card_40 : decode cX11_card 40 = .ok (.getfield 10, 3) := by decide +kernel
theorem d_X11_card_43 : decode cX11_card 43 = .ok (.getfield 69, 3) := by decide +kernel
theorem d_X11_card_46 : decode cX11_card 46 = .ok (.bipush 40, 2) := by decide +kernel
theorem d_X11_card_48 : decode cX11_card 48 = .ok (.if_icmp .lt 6, 3) := by decide +kernel
theorem d_X11_card_51 : decode cX11_card 51 = .ok (.bipush (-2), 2) := by decide +kernel
theorem d_X11_card_53 : decode cX11_card 53 = .ok (.ireturn, 1) := by decide +kernel
theorem d_X11_card_54 : decode cX11_card 54 = .ok (.aload_n 0, 1) := by decide +kernel
theorem d_X11_card_55 : decode cX11_card 55 = .ok (.getfield 21, 3) := by decide +kernel
theorem d_X11_card_58 : decode cX11_card 58 = .ok (.iload_n 1, 1) := by decide +kernel
theorem d_X11_card_59 : decode cX11_card 59 = .ok (.aaload, 1) := by decide +kernel
theorem d_X11_card_60 : decode cX11_card 60 = .ok (.iconst 1, 1) := by decide +kernel
theorem d_X11_card_61 : decode cX11_card 61 = .ok (.bipush 8, 2) := by decide +kernel
theorem d_X11_card_63 : decode cX11_card 63 = .ok (.invokevirtual 73, 3) := by decide +kernel
theorem d_X11_card_66 : decode cX11_card 66 = .ok (.istore 5, 2) := by decide +kernel
theorem d_X11_card_68 : decode cX11_card 68 = .ok (.iload 5, 2) := by decide +kernel
theorem d_X11_card_70 : decode cX11_card 70 = .ok (.ifCond .eq 6, 3) := by decide +kernel
theorem d_X11_card_73 : decode cX11_card 73 = .ok (.iload 5, 2) := by decide +kernel
theorem d_X11_card_75 : decode cX11_card 75 = .ok (.ireturn, 1) := by decide +kernel
theorem d_X11_card_76 : decode cX11_card 76 = .ok (.aload_n 0, 1) := by decide +kernel
theorem d_X11_card_77 : decode cX11_card 77 = .ok (.getfield 10, 3) := by decide +kernel
theorem d_X11_card_80 : decode cX11_card 80 = .ok (.getfield 77, 3) := by decide +kernel
theorem d_X11_card_83 : decode cX11_card 83 = .ok (.aload_n 0, 1) := by decide +kernel
theorem d_X11_card_84 : decode cX11_card 84 = .ok (.getfield 10, 3) := by decide +kernel
theorem d_X11_card_87 : decode cX11_card 87 = .ok (.getfield 69, 3) := by decide +kernel
theorem d_X11_card_90 : decode cX11_card 90 = .ok (.aaload, 1) := by decide +kernel
theorem d_X11_card_91 : decode cX11_card 91 = .ok (.astore 6, 2) := by decide +kernel
theorem d_X11_card_93 : decode cX11_card 93 = .ok (.aload 6, 2) := by decide +kernel
theorem d_X11_card_95 : decode cX11_card 95 = .ok (.getfield 81, 3) := by decide +kernel
theorem d_X11_card_98 : decode cX11_card 98 = .ok (.aload_n 0, 1) := by decide +kernel
theorem d_X11_card_99 : decode cX11_card 99 = .ok (.getfield 21, 3) := by decide +kernel
theorem d_X11_card_102 : decode cX11_card 102 = .ok (.iload_n 1, 1) := by decide +kernel
theorem d_X11_card_103 : decode cX11_card 103 = .ok (.aaload, 1) := by decide +kernel
theorem d_X11_card_104 : decode cX11_card 104 = .ok (.invokevirtual 87, 3) := by decide +kernel
theorem d_X11_card_107 : decode cX11_card 107 = .ok (.aload 6, 2) := by decide +kernel
theorem d_X11_card_109 : decode cX11_card 109 = .ok (.iload_n 2, 1) := by decide +kernel
theorem d_X11_card_110 : decode cX11_card 110 = .ok (.putfield 93, 3) := by decide +kernel
theorem d_X11_card_113 : decode cX11_card 113 = .ok (.aload 6, 2) := by decide +kernel
theorem d_X11_card_115 : decode cX11_card 115 = .ok (.iload_n 3, 1) := by decide +kernel
theorem d_X11_card_116 : decode cX11_card 116 = .ok (.bipush 100, 2) := by decide +kernel
theorem d_X11_card_118 : decode cX11_card 118 = .ok (.idiv, 1) := by decide +kernel
theorem d_X11_card_119 : decode cX11_card 119 = .ok (.putfield 96, 3) := by decide +kernel
theorem d_X11_card_122 : decode cX11_card 122 = .ok (.aload 6, 2) := by decide +kernel
theorem d_X11_card_124 : decode cX11_card 124 = .ok (.iload_n 3, 1) := by decide +kernel
theorem d_X11_card_125 : decode cX11_card 125 = .ok (.bipush 10, 2) := by decide +kernel
theorem d_X11_card_127 : decode cX11_card 127 = .ok (.idiv, 1) := by decide +kernel
theorem d_X11_card_128 : decode cX11_card 128 = .ok (.bipush 10, 2) := by decide +kernel
theorem d_X11_card_130 : decode cX11_card 130 = .ok (.irem, 1) := by decide +kernel
theorem d_X11_card_131 : decode cX11_card 131 = .ok (.putfield 99, 3) := by decide +kernel
theorem d_X11_card_134 : decode cX11_card 134 = .ok (.aload 6, 2) := by decide +kernel
theorem d_X11_card_136 : decode cX11_card 136 = .ok (.iload_n 3, 1) := by decide +kernel
theorem d_X11_card_137 : decode cX11_card 137 = .ok (.bipush 10, 2) := by decide +kernel
theorem d_X11_card_139 : decode cX11_card 139 = .ok (.irem, 1) := by decide +kernel
theorem d_X11_card_140 : decode cX11_card 140 = .ok (.iconst 1, 1) := by decide +kernel
theorem d_X11_card_141 : decode cX11_card 141 = .ok (.if_icmp .ne 7, 3) := by decide +kernel
theorem d_X11_card_144 : decode cX11_card 144 = .ok (.iconst 1, 1) := by decide +kernel
theorem d_X11_card_145 : decode cX11_card 145 = .ok (.goto 4, 3) := by decide +kernel
theorem d_X11_card_148 : decode cX11_card 148 = .ok (.iconst 0, 1) := by decide +kernel
theorem d_X11_card_149 : decode cX11_card 149 = .ok (.putfield 102, 3) := by decide +kernel
theorem d_X11_card_152 : decode cX11_card 152 = .ok (.aload 6, 2) := by decide +kernel
theorem d_X11_card_154 : decode cX11_card 154 = .ok (.iload 4, 2) := by decide +kernel
theorem d_X11_card_156 : decode cX11_card 156 = .ok (.putfield 106, 3) := by decide +kernel
theorem d_X11_card_159 : decode cX11_card 159 = .ok (.aload 6, 2) := by decide +kernel
theorem d_X11_card_161 : decode cX11_card 161 = .ok (.iconst 0, 1) := by decide +kernel
theorem d_X11_card_162 : decode cX11_card 162 = .ok (.putfield 109, 3) := by decide +kernel
theorem d_X11_card_165 : decode cX11_card 165 = .ok (.aload_n 0, 1) := by decide +kernel
theorem d_X11_card_166 : decode cX11_card 166 = .ok (.getfield 10, 3) := by decide +kernel
theorem d_X11_card_169 : decode cX11_card 169 = .ok (.dup, 1) := by decide +kernel
theorem d_X11_card_170 : decode cX11_card 170 = .ok (.getfield 69, 3) := by decide +kernel
theorem d_X11_card_173 : decode cX11_card 173 = .ok (.iconst 1, 1) := by decide +kernel
theorem d_X11_card_174 : decode cX11_card 174 = .ok (.iadd, 1) := by decide +kernel
theorem d_X11_card_175 : decode cX11_card 175 = .ok (.putfield 69, 3) := by decide +kernel
theorem d_X11_card_178 : decode cX11_card 178 = .ok (.aload_n 0, 1) := by decide +kernel
theorem d_X11_card_179 : decode cX11_card 179 = .ok (.getfield 10, 3) := by decide +kernel
theorem d_X11_card_182 : decode cX11_card 182 = .ok (.getfield 69, 3) := by decide +kernel
theorem d_X11_card_185 : decode cX11_card 185 = .ok (.iconst 1, 1) := by decide +kernel
theorem d_X11_card_186 : decode cX11_card 186 = .ok (.isub, 1) := by decide +kernel
theorem d_X11_card_187 : decode cX11_card 187 = .ok (.ireturn, 1) := by decide +kernel
set_option maxHeartbeats 4000000 in
set_option maxRecDepth 100000 in
theorem t_X11_card_149 {X : XT_x} {G : GT_g} {z : (Mem_m × Int)} (C : Cx_ (K_X11_card) X G) (hR : Rx_ X G (some .int)) (M : Mem_m) (x0 : Nat) (x4 : Int) (x6 : Nat) (s0 : Int) (s1 : Nat) (o_x4 : ok_i x4) (o_s0 : ok_i s0) (h : f_X11_card_149 G.2.2.2 M x0 x4 x6 s0 s1 = some z) : V_ (K_X11_card) X G (Fq_ X G (Qi_ G z.1 z.2)) M 149 [(0, .ref (G.1 + x0)), (4, iv_i x4), (6, .ref (G.1 + x6))] [iv_i s0, .ref (G.1 + s1)] := by
  unfold f_X11_card_149 at h
  refine V_putZ C ck_1 fw_X11_102 fp_1_5 d_X11_card_149 o_s0 h (fun M1 h => ?_)
  refine V_aload (j := 2) C d_X11_card_152 rfl ?_
  refine V_iload (j := 1) C d_X11_card_154 rfl ?_
  refine V_putI C ck_1 fw_X11_106 fp_1_4 d_X11_card_156 o_x4 h (fun M2 h => ?_)
  refine V_aload (j := 2) C d_X11_card_159 rfl ?_
  refine V_iconst C d_X11_card_161 ?_
  refine V_putI C ck_1 fw_X11_109 fp_1_6 d_X11_card_162 (okc rfl) h (fun M3 h => ?_)
  refine V_aload_n (j := 0) C d_X11_card_165 rfl rfl ?_
  refine V_getR C ck_11 fw_X11_10 d_X11_card_166 h (fun v4 h => ?_)
  refine V_dup C d_X11_card_169 rfl ?_
  refine V_getI C ck_0 fw_X11_69 d_X11_card_170 h (fun v5 o5 h => ?_)
  refine V_iconst C d_X11_card_173 ?_
  refine V_iadd C d_X11_card_174 ?_
  refine V_putI C ck_0 fw_X11_69 fp_0_4 d_X11_card_175 (ok_wr _) h (fun M6 h => ?_)
  refine V_aload_n (j := 0) C d_X11_card_178 rfl rfl ?_
  refine V_getR C ck_11 fw_X11_10 d_X11_card_179 h (fun v7 h => ?_)
  refine V_getI C ck_0 fw_X11_69 d_X11_card_182 h (fun v8 o8 h => ?_)
  refine V_iconst C d_X11_card_185 ?_
  refine V_isub C d_X11_card_186 ?_
  exact V_iret_w C hR d_X11_card_187 (ok_wr _) h
set_option maxHeartbeats 4000000 in
set_option maxRecDepth 100000 in
theorem t_X11_card {X : XT_x} {G : GT_g} {M : Mem_m} {z : (Mem_m × Int)} (C : Cx_ (K_X11_card) X G) (hR : Rx_ X G (some .int)) (x0 : Nat) (x1 : Int) (x2 : Int) (x3 : Int) (x4 : Int) (o_x1 : ok_i x1) (o_x2 : ok_i x2) (o_x3 : ok_i x3) (o_x4 : ok_i x4) (h : f_X11_card G.2.2.2 M x0 x1 x2 x3 x4 = some z) : V_ (K_X11_card) X G (Fq_ X G (Qi_ G z.1 z.2)) M 0 [(0, .ref (G.1 + x0)), (1, iv_i x1), (2, iv_i x2), (3, iv_i x3), (4, iv_i x4)] [] := by
  unfold f_X11_card at h
  refine V_iload_n (j := 1) C d_X11_card_0 rfl rfl ?_
  refine V_bipush (v := 8) C d_X11_card_1 rfl ?_
  refine V_callSri (K' := K_X11_isIn) (av := [iv_i x1, iv_i 8]) (rest := []) ys_X11_isIn C (yk_X11_isIn) l1_X11_61 (by decide) d_X11_card_3 (fun v hv => ct_X11_isIn x1 8 o_x1 (okc rfl) hv) rfl rfl (Nat.le_of_ble_eq_true rfl) h (fun v1 o1 h => ?_)
  refine V_if_eq (tgt := 37) C d_X11_card_6 (by decide) o1 h (fun h => ?_) (fun h => ?_)
  · skip
    refine V_iconst C d_X11_card_37 ?_
    exact V_iret_w C hR d_X11_card_38 (okc rfl) h
  · skip
    refine V_iload_n (j := 2) C d_X11_card_9 rfl rfl ?_
    refine V_sipush (v := 1024) C d_X11_card_10 rfl ?_
    refine V_callSri (K' := K_X11_isIn) (av := [iv_i x2, iv_i 1024]) (rest := []) ys_X11_isIn C (yk_X11_isIn) l1_X11_61 (by decide) d_X11_card_13 (fun v hv => ct_X11_isIn x2 1024 o_x2 (okc rfl) hv) rfl rfl (Nat.le_of_ble_eq_true rfl) h (fun v2 o2 h => ?_)
    refine V_if_eq (tgt := 37) C d_X11_card_16 (by decide) o2 h (fun h => ?_) (fun h => ?_)
    · skip
      refine V_iconst C d_X11_card_37 ?_
      exact V_iret_w C hR d_X11_card_38 (okc rfl) h
    · skip
      refine V_iload_n (j := 3) C d_X11_card_19 rfl rfl ?_
      refine V_callSri (K' := K_X11_isTold) (av := [iv_i x3]) (rest := []) ys_X11_isTold C (yk_X11_isTold) l1_X11_65 (by decide) d_X11_card_20 (fun v hv => ct_X11_isTold x3 o_x3 hv) rfl rfl (Nat.le_of_ble_eq_true rfl) h (fun v3 o3 h => ?_)
      refine V_if_eq (tgt := 37) C d_X11_card_23 (by decide) o3 h (fun h => ?_) (fun h => ?_)
      · skip
        refine V_iconst C d_X11_card_37 ?_
        exact V_iret_w C hR d_X11_card_38 (okc rfl) h
      · skip
        refine V_iload (j := 4) C d_X11_card_26 rfl ?_
        refine V_sipush (v := 1000) C d_X11_card_28 rfl ?_
        refine V_callSri (K' := K_X11_isIn) (av := [iv_i x4, iv_i 1000]) (rest := []) ys_X11_isIn C (yk_X11_isIn) l1_X11_61 (by decide) d_X11_card_31 (fun v hv => ct_X11_isIn x4 1000 o_x4 (okc rfl) hv) rfl rfl (Nat.le_of_ble_eq_true rfl) h (fun v4 o4 h => ?_)
        refine V_if_ne (tgt := 39) C d_X11_card_34 (by decide) o4 h (fun h => ?_) (fun h => ?_)
        · skip
          refine V_iconst C d_X11_card_37 ?_
          exact V_iret_w C hR d_X11_card_38 (okc rfl) h
        · skip
          refine V_aload_n (j := 0) C d_X11_card_39 rfl rfl ?_
          refine V_getR C ck_11 fw_X11_10 d_X11_card_40 h (fun v5 h => ?_)
          refine V_getI C ck_0 fw_X11_69 d_X11_card_43 h (fun v6 o6 h => ?_)
          refine V_bipush (v := 40) C d_X11_card_46 rfl ?_
          refine V_icmp_lt (tgt := 54) C d_X11_card_48 (by decide) o6 (okc rfl) h (fun h => ?_) (fun h => ?_)
          · skip
            refine V_aload_n (j := 0) C d_X11_card_54 rfl rfl ?_
            refine V_getR C ck_11 fw_X11_21 d_X11_card_55 h (fun v7 h => ?_)
            refine V_iload_n (j := 1) C d_X11_card_58 rfl rfl ?_
            refine V_aald (t := 5) C tc_5 d_X11_card_59 o_x1 h (fun v8 h => ?_)
            refine V_iconst C d_X11_card_60 ?_
            refine V_bipush (v := 8) C d_X11_card_61 rfl ?_
            refine V_callVri (K' := K_X9_refusalOfSounds) (a := v8) (ci := 9) (av := [iv_i 1, iv_i 8]) (rest := []) yi_X9_refusalOfSounds (by decide) rfl C (yk_X9_refusalOfSounds) l1_X11_73 (by decide) d_X11_card_63 (fun v hv => ct_X9_refusalOfSounds v8 1 8 (okc rfl) (okc rfl) hv) rfl rfl (Nat.le_of_ble_eq_true rfl) h (fun v9 o9 h => ?_)
            refine V_istore (lv' := [(5, iv_i v9), (0, .ref (G.1 + x0)), (1, iv_i x1), (2, iv_i x2), (3, iv_i x3), (4, iv_i x4)]) C d_X11_card_66 (by decide) rfl ?_
            refine V_iload (j := 0) C d_X11_card_68 rfl ?_
            refine V_if_eq (tgt := 76) C d_X11_card_70 (by decide) o9 h (fun h => ?_) (fun h => ?_)
            · skip
              refine V_aload_n (j := 1) C d_X11_card_76 rfl rfl ?_
              refine V_getR C ck_11 fw_X11_10 d_X11_card_77 h (fun v10 h => ?_)
              refine V_getR C ck_0 fw_X11_77 d_X11_card_80 h (fun v11 h => ?_)
              refine V_aload_n (j := 1) C d_X11_card_83 rfl rfl ?_
              refine V_getR C ck_11 fw_X11_10 d_X11_card_84 h (fun v12 h => ?_)
              refine V_getI C ck_0 fw_X11_69 d_X11_card_87 h (fun v13 o13 h => ?_)
              refine V_aald (t := 0) C tc_0 d_X11_card_90 o13 h (fun v14 h => ?_)
              refine V_astore (lv' := [(6, .ref (G.1 + v14)), (5, iv_i v9), (0, .ref (G.1 + x0)), (1, iv_i x1), (2, iv_i x2), (3, iv_i x3), (4, iv_i x4)]) C d_X11_card_91 (by decide) rfl ?_
              refine V_aload (j := 0) C d_X11_card_93 rfl ?_
              refine V_getR C ck_1 fw_X11_81 d_X11_card_95 h (fun v15 h => ?_)
              refine V_aload_n (j := 2) C d_X11_card_98 rfl rfl ?_
              refine V_getR C ck_11 fw_X11_21 d_X11_card_99 h (fun v16 h => ?_)
              refine V_iload_n (j := 3) C d_X11_card_102 rfl rfl ?_
              refine V_aald (t := 5) C tc_5 d_X11_card_103 o_x1 h (fun v17 h => ?_)
              refine V_callVwv (K' := K_X10_takeRow) (a := v15) (ci := 10) (av := [.ref (G.1 + v17)]) (rest := []) yi_X10_takeRow (by decide) rfl C (yk_X10_takeRow) l1_X11_87 (by decide) d_X11_card_104 (fun v hv => ct_X10_takeRow v15 v17 hv) rfl rfl (Nat.le_of_ble_eq_true rfl) h (fun M18 h => ?_)
              refine V_aload (j := 0) C d_X11_card_107 rfl ?_
              refine V_iload_n (j := 4) C d_X11_card_109 rfl rfl ?_
              refine V_putI C ck_1 fw_X11_93 fp_1_1 d_X11_card_110 o_x2 h (fun M19 h => ?_)
              refine V_aload (j := 0) C d_X11_card_113 rfl ?_
              refine V_iload_n (j := 5) C d_X11_card_115 rfl rfl ?_
              refine V_bipush (v := 100) C d_X11_card_116 rfl ?_
              refine V_idiv C d_X11_card_118 (okc rfl) h (fun h => ?_)
              refine V_putI C ck_1 fw_X11_96 fp_1_2 d_X11_card_119 (ok_I _) h (fun M20 h => ?_)
              refine V_aload (j := 0) C d_X11_card_122 rfl ?_
              refine V_iload_n (j := 5) C d_X11_card_124 rfl rfl ?_
              refine V_bipush (v := 10) C d_X11_card_125 rfl ?_
              refine V_idiv C d_X11_card_127 (okc rfl) h (fun h => ?_)
              refine V_bipush (v := 10) C d_X11_card_128 rfl ?_
              refine V_irem C d_X11_card_130 (okc rfl) h (fun h => ?_)
              refine V_putI C ck_1 fw_X11_99 fp_1_3 d_X11_card_131 (ok_I _) h (fun M21 h => ?_)
              refine V_aload (j := 0) C d_X11_card_134 rfl ?_
              refine V_iload_n (j := 5) C d_X11_card_136 rfl rfl ?_
              refine V_bipush (v := 10) C d_X11_card_137 rfl ?_
              refine V_irem C d_X11_card_139 (okc rfl) h (fun h => ?_)
              refine V_iconst C d_X11_card_140 ?_
              refine V_icmp_ne (tgt := 148) C d_X11_card_141 (by decide) (ok_I _) (okc rfl) h (fun h => ?_) (fun h => ?_)
              · skip
                refine V_iconst C d_X11_card_144 ?_
                refine V_goto (tgt := 149) C d_X11_card_145 (by decide) ?_
                refine V_lv [2, 6, 0] rfl (t_X11_card_149 C hR M21 x0 x4 v14 1 v14 o_x4 (okc rfl) h)
              · skip
                refine V_iconst C d_X11_card_148 ?_
                refine V_lv [2, 6, 0] rfl (t_X11_card_149 C hR M21 x0 x4 v14 0 v14 o_x4 (okc rfl) h)
            · skip
              refine V_iload (j := 0) C d_X11_card_73 rfl ?_
              exact V_iret_w C hR d_X11_card_75 o9 h
          · skip
            refine V_bipush (v := (-2)) C d_X11_card_51 rfl ?_
            exact V_iret_w C hR d_X11_card_53 (okc rfl) h
set_option maxHeartbeats 4000000 in
set_option maxRecDepth 100000 in
theorem ct_X11_card {l : Launch} {G : GT_g} {M : Mem_m} (x0 : Nat) (x1 : Int) (x2 : Int) (x3 : Int) (x4 : Int) (o_x1 : ok_i x1) (o_x2 : ok_i x2) (o_x3 : ok_i x3) (o_x4 : ok_i x4) {z : (Mem_m × Int)} (h : f_X11_card G.2.2.2 M x0 x1 x2 x3 x4 = some z) : MI_ l yX11_card K_X11_card (some .int) G M [.ref (G.1 + x0), iv_i x1, iv_i x2, iv_i x3, iv_i x4] z.1 z.2 :=
  met_of (by decide +kernel) rfl (Nat.le_of_ble_eq_true rfl) (fun X hl C hR => by subst hl; exact t_X11_card C hR x0 x1 x2 x3 x4 o_x1 o_x2 o_x3 o_x4 h)
theorem d_X11_about_0 : decode cX11_about 0 = .ok (.iload_n 1, 1) := by decide +kernel
theorem d_X11_about_1 : decode cX11_about 1 = .ok (.aload_n 0, 1) := by decide +kernel
theorem d_X11_about_2 : decode cX11_about 2 = .ok (.getfield 10, 3) := by decide +kernel
theorem d_X11_about_5 : decode cX11_about 5 = .ok (.getfield 69, 3) := by decide +kernel
theorem d_X11_about_8 : decode cX11_about 8 = .ok (.invokestatic 61, 3) := by decide +kernel
theorem d_X11_about_11 : decode cX11_about 11 = .ok (.ifCond .ne 5, 3) := by decide +kernel
theorem d_X11_about_14 : decode cX11_about 14 = .ok (.iconst (-1), 1) := by decide +kernel
theorem d_X11_about_15 : decode cX11_about 15 = .ok (.ireturn, 1) := by decide +kernel
theorem d_X11_about_16 : decode cX11_about 16 = .ok (.aload_n 0, 1) := by decide +kernel
theorem d_X11_about_17 : decode cX11_about 17 = .ok (.getfield 10, 3) := by decide +kernel
theorem d_X11_about_20 : decode cX11_about 20 = .ok (.getfield 77, 3) := by decide +kernel
theorem d_X11_about_23 : decode cX11_about 23 = .ok (.iload_n 1, 1) := by decide +kernel
theorem d_X11_about_24 : decode cX11_about 24 = .ok (.aaload, 1) := by decide +kernel
theorem d_X11_about_25 : decode cX11_about 25 = .ok (.astore_n 3, 1) := by decide +kernel
theorem d_X11_about_26 : decode cX11_about 26 = .ok (.iload_n 2, 1) := by decide +kernel
theorem d_X11_about_27 : decode cX11_about 27 = .ok (.tableswitch 87 0 6 #[41, 49, 54, 59, 64, 69, 82], 41) := by decide +kernel
theorem d_X11_about_68 : decode cX11_about 68 = .ok (.aload_n 3, 1) := by decide +kernel
theorem d_X11_about_69 : decode cX11_about 69 = .ok (.getfield 81, 3) := by decide +kernel
theorem d_X11_about_72 : decode cX11_about 72 = .ok (.getfield 112, 3) := by decide +kernel
theorem d_X11_about_75 : decode cX11_about 75 = .ok (.ireturn, 1) := by decide +kernel
theorem d_X11_about_76 : decode cX11_about 76 = .ok (.aload_n 3, 1) := by decide +kernel
theorem d_X11_about_77 : decode cX11_about 77 = .ok (.getfield 93, 3) := by decide +kernel
theorem d_X11_about_80 : decode cX11_about 80 = .ok (.ireturn, 1) := by decide +kernel
theorem d_X11_about_81 : decode cX11_about 81 = .ok (.aload_n 3, 1) := by decide +kernel
theorem d_X11_about_82 : decode cX11_about 82 = .ok (.getfield 96, 3) := by decide +kernel
theorem d_X11_about_85 : decode cX11_about 85 = .ok (.ireturn, 1) := by decide +kernel
theorem d_X11_about_86 : decode cX11_about 86 = .ok (.aload_n 3, 1) := by decide +kernel
theorem d_X11_about_87 : decode cX11_about 87 = .ok (.getfield 99, 3) := by decide +kernel
theorem d_X11_about_90 : decode cX11_about 90 = .ok (.ireturn, 1) := by decide +kernel
theorem d_X11_about_91 : decode cX11_about 91 = .ok (.aload_n 3, 1) := by decide +kernel
theorem d_X11_about_92 : decode cX11_about 92 = .ok (.getfield 106, 3) := by decide +kernel
theorem d_X11_about_95 : decode cX11_about 95 = .ok (.ireturn, 1) := by decide +kernel
theorem d_X11_about_96 : decode cX11_about 96 = .ok (.aload_n 3, 1) := by decide +kernel
theorem d_X11_about_97 : decode cX11_about 97 = .ok (.getfield 102, 3) := by decide +kernel
theorem d_X11_about_100 : decode cX11_about 100 = .ok (.ifCond .eq 7, 3) := by decide +kernel
theorem d_X11_about_103 : decode cX11_about 103 = .ok (.iconst 1, 1) := by decide +kernel
theorem d_X11_about_104 : decode cX11_about 104 = .ok (.goto 4, 3) := by decide +kernel
theorem d_X11_about_107 : decode cX11_about 107 = .ok (.iconst 0, 1) := by decide +kernel
theorem d_X11_about_108 : decode cX11_about 108 = .ok (.ireturn, 1) := by decide +kernel
theorem d_X11_about_109 : decode cX11_about 109 = .ok (.aload_n 3, 1) := by decide +kernel
theorem d_X11_about_110 : decode cX11_about 110 = .ok (.getfield 109, 3) := by decide +kernel
theorem d_X11_about_113 : decode cX11_about 113 = .ok (.ireturn, 1) := by decide +kernel
theorem d_X11_about_114 : decode cX11_about 114 = .ok (.iconst (-1), 1) := by decide +kernel
theorem d_X11_about_115 : decode cX11_about 115 = .ok (.ireturn, 1) := by decide +kernel
set_option maxHeartbeats 4000000 in
set_option maxRecDepth 100000 in
theorem t_X11_about {X : XT_x} {G : GT_g} {M : Mem_m} {z : Int} (C : Cx_ (K_X11_about) X G) (hR : Rx_ X G (some .int)) (x0 : Nat) (x1 : Int) (x2 : Int) (o_x1 : ok_i x1) (o_x2 : ok_i x2) (h : f_X11_about G.2.2.2 M x0 x1 x2 = some z) : V_ (K_X11_about) X G (Fq_ X G (Qi_ G M z)) M 0 [(0, .ref (G.1 + x0)), (1, iv_i x1), (2, iv_i x2)] [] := by
  unfold f_X11_about at h
  refine V_iload_n (j := 1) C d_X11_about_0 rfl rfl ?_
  refine V_aload_n (j := 0) C d_X11_about_1 rfl rfl ?_
  refine V_getR C ck_11 fw_X11_10 d_X11_about_2 h (fun v1 h => ?_)
  refine V_getI C ck_0 fw_X11_69 d_X11_about_5 h (fun v2 o2 h => ?_)
  refine V_callSri (K' := K_X11_isIn) (av := [iv_i x1, iv_i v2]) (rest := []) ys_X11_isIn C (yk_X11_isIn) l1_X11_61 (by decide) d_X11_about_8 (fun v hv => ct_X11_isIn x1 v2 o_x1 o2 hv) rfl rfl (Nat.le_of_ble_eq_true rfl) h (fun v3 o3 h => ?_)
  refine V_if_ne (tgt := 16) C d_X11_about_11 (by decide) o3 h (fun h => ?_) (fun h => ?_)
  · skip
    refine V_iconst C d_X11_about_14 ?_
    exact V_iret_r C hR d_X11_about_15 (okc rfl) h
  · skip
    refine V_aload_n (j := 0) C d_X11_about_16 rfl rfl ?_
    refine V_getR C ck_11 fw_X11_10 d_X11_about_17 h (fun v4 h => ?_)
    refine V_getR C ck_0 fw_X11_77 d_X11_about_20 h (fun v5 h => ?_)
    refine V_iload_n (j := 1) C d_X11_about_23 rfl rfl ?_
    refine V_aald (t := 0) C tc_0 d_X11_about_24 o_x1 h (fun v6 h => ?_)
    refine V_astore_n (lv' := [(3, .ref (G.1 + v6)), (0, .ref (G.1 + x0)), (1, iv_i x1), (2, iv_i x2)]) C d_X11_about_25 rfl (by decide) rfl ?_
    refine V_iload_n (j := 3) C d_X11_about_26 rfl rfl ?_
    refine V_eqs h (fun e7 h => ?_) (fun e7 h => ?_)
    · skip
      refine V_tabIn (tgt := 68) C d_X11_about_27 o_x2 (by omega) (by omega) (by rw [e7]; rfl) (by decide) ?_
      refine V_aload_n (j := 0) C d_X11_about_68 rfl rfl ?_
      refine V_getR C ck_1 fw_X11_81 d_X11_about_69 h (fun v8 h => ?_)
      refine V_getI C ck_10 fw_X11_112 d_X11_about_72 h (fun v9 o9 h => ?_)
      exact V_iret_r C hR d_X11_about_75 o9 h
    refine V_eqs h (fun e10 h => ?_) (fun e10 h => ?_)
    · skip
      refine V_tabIn (tgt := 76) C d_X11_about_27 o_x2 (by omega) (by omega) (by rw [e10]; rfl) (by decide) ?_
      refine V_aload_n (j := 0) C d_X11_about_76 rfl rfl ?_
      refine V_getI C ck_1 fw_X11_93 d_X11_about_77 h (fun v11 o11 h => ?_)
      exact V_iret_r C hR d_X11_about_80 o11 h
    refine V_eqs h (fun e12 h => ?_) (fun e12 h => ?_)
    · skip
      refine V_tabIn (tgt := 81) C d_X11_about_27 o_x2 (by omega) (by omega) (by rw [e12]; rfl) (by decide) ?_
      refine V_aload_n (j := 0) C d_X11_about_81 rfl rfl ?_
      refine V_getI C ck_1 fw_X11_96 d_X11_about_82 h (fun v13 o13 h => ?_)
      exact V_iret_r C hR d_X11_about_85 o13 h
    refine V_eqs h (fun e14 h => ?_) (fun e14 h => ?_)
    · skip
      refine V_tabIn (tgt := 86) C d_X11_about_27 o_x2 (by omega) (by omega) (by rw [e14]; rfl) (by decide) ?_
      refine V_aload_n (j := 0) C d_X11_about_86 rfl rfl ?_
      refine V_getI C ck_1 fw_X11_99 d_X11_about_87 h (fun v15 o15 h => ?_)
      exact V_iret_r C hR d_X11_about_90 o15 h
    refine V_eqs h (fun e16 h => ?_) (fun e16 h => ?_)
    · skip
      refine V_tabIn (tgt := 91) C d_X11_about_27 o_x2 (by omega) (by omega) (by rw [e16]; rfl) (by decide) ?_
      refine V_aload_n (j := 0) C d_X11_about_91 rfl rfl ?_
      refine V_getI C ck_1 fw_X11_106 d_X11_about_92 h (fun v17 o17 h => ?_)
      exact V_iret_r C hR d_X11_about_95 o17 h
    refine V_eqs h (fun e18 h => ?_) (fun e18 h => ?_)
    · skip
      refine V_tabIn (tgt := 96) C d_X11_about_27 o_x2 (by omega) (by omega) (by rw [e18]; rfl) (by decide) ?_
      refine V_aload_n (j := 0) C d_X11_about_96 rfl rfl ?_
      refine V_getI C ck_1 fw_X11_102 d_X11_about_97 h (fun v19 o19 h => ?_)
      refine V_if_eq (tgt := 107) C d_X11_about_100 (by decide) o19 h (fun h => ?_) (fun h => ?_)
      · skip
        refine V_iconst C d_X11_about_107 ?_
        exact V_iret_r C hR d_X11_about_108 (okc rfl) h
      · skip
        refine V_iconst C d_X11_about_103 ?_
        refine V_goto (tgt := 108) C d_X11_about_104 (by decide) ?_
        exact V_iret_r C hR d_X11_about_108 (okc rfl) h
    refine V_eqs h (fun e20 h => ?_) (fun e20 h => ?_)
    · skip
      refine V_tabIn (tgt := 109) C d_X11_about_27 o_x2 (by omega) (by omega) (by rw [e20]; rfl) (by decide) ?_
      refine V_aload_n (j := 0) C d_X11_about_109 rfl rfl ?_
      refine V_getI C ck_1 fw_X11_109 d_X11_about_110 h (fun v21 o21 h => ?_)
      exact V_iret_r C hR d_X11_about_113 o21 h
    refine V_tabOut (tgt := 114) C d_X11_about_27 o_x2 (by omega) (by decide) ?_
    refine V_iconst C d_X11_about_114 ?_
    exact V_iret_r C hR d_X11_about_115 (okc rfl) h
set_option maxHeartbeats 4000000 in
set_option maxRecDepth 100000 in
theorem ct_X11_about {l : Launch} {G : GT_g} {M : Mem_m} (x0 : Nat) (x1 : Int) (x2 : Int) (o_x1 : ok_i x1) (o_x2 : ok_i x2) {z : Int} (h : f_X11_about G.2.2.2 M x0 x1 x2 = some z) : MI_ l yX11_about K_X11_about (some .int) G M [.ref (G.1 + x0), iv_i x1, iv_i x2] M z :=
  met_of (by decide +kernel) rfl (Nat.le_of_ble_eq_true rfl) (fun X hl C hR => by subst hl; exact t_X11_about C hR x0 x1 x2 o_x1 o_x2 h)
