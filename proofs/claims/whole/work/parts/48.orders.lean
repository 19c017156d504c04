theorem l1_X6_26 : L1_ RX6 26 yX6_addOrder := tb_in (qt_2 (List.mem_of_getElem? (i := 106) (by decide +kernel))) rfl
def f_X6_init_23 (S : SH_s) (x0 : Nat) : Nat → Mem_m → Int → Int → Option Mem_m
  | 0, _, _, _ => none
  | n + 1, M, x1, x2 =>
  if x2 < 256 then
    (vc_ S x0 6 (f_X6_spell S M x0 x2 4)).bind fun M1 =>
    (gR_ S x0 6 1).bind fun v2 =>
    (f_X6_isSaying S M1 v2 4).bind fun v3 =>
    if v3 = 0 then
      f_X6_init_23 S x0 n M1 x1 (wr_i (x2 + 1))
    else
      (vc_ S x0 6 (f_X6_addOrder S M1 x0 x1)).bind fun M4 =>
      f_X6_init_23 S x0 n M4 (wr_i (x1 + 1)) (wr_i (x2 + 1))
  else
    some M
def f_X6_init (S : SH_s) (M : Mem_m) (x0 : Nat) : Option Mem_m :=
  f_X6_init_23 S x0 FU_ M 0 0
set_option maxHeartbeats 4000000 in
set_option maxRecDepth 100000 in
theorem t_X6_init_23 {X : XT_x} {G : GT_g} {z : Mem_m} (C : Cx_ (K_X6_init) X G) {Q : State → Prop} (hR : ∀ M : Mem_m, some M = some z → V_ (K_X6_init) X G Q M 61 [] []) (x0 : Nat) : ∀ (n : Nat) (M : Mem_m) (x1 : Int) (x2 : Int) (o_x1 : ok_i x1) (o_x2 : ok_i x2), f_X6_init_23 G.2.2.2 x0 n M x1 x2 = some z → V_ (K_X6_init) X G Q M 23 [(0, .ref (G.1 + x0)), (1, iv_i x1), (2, iv_i x2)] [] := by
  intro n
  induction n with
  | zero => intro M x1 x2 o_x1 o_x2 h; exact absurd h (by simp [f_X6_init_23])
  | succ n ih =>
    intro M x1 x2 o_x1 o_x2 h
    unfold f_X6_init_23 at h
    refine V_iload_n (j := 2) C d_X6_init_23 rfl rfl ?_
    refine V_sipush (v := 256) C d_X6_init_24 rfl ?_
    refine V_icmp_ge (tgt := 61) C d_X6_init_27 (by decide) o_x2 (okc rfl) h (fun h => ?_) (fun h => ?_)
    · skip
      refine V_aload_n (j := 0) C d_X6_init_30 rfl rfl ?_
      refine V_iload_n (j := 2) C d_X6_init_31 rfl rfl ?_
      refine V_iconst C d_X6_init_32 ?_
      refine V_callVwv (K' := K_X6_spell) (a := x0) (ci := 6) (av := [iv_i x2, iv_i 4]) (rest := []) yi_X6_spell (by decide) rfl C (yk_X6_spell) l1_X6_18 (by decide) d_X6_init_33 (fun v hv => ct_X6_spell x0 x2 4 o_x2 (okc rfl) hv) rfl rfl (Nat.le_of_ble_eq_true rfl) h (fun M1 h => ?_)
      refine V_aload_n (j := 0) C d_X6_init_36 rfl rfl ?_
      refine V_getR C ck_6 fw_X6_15 d_X6_init_37 h (fun v2 h => ?_)
      refine V_iconst C d_X6_init_40 ?_
      refine V_callSri (K' := K_X6_isSaying) (av := [.ref (G.1 + v2), iv_i 4]) (rest := []) ys_X6_isSaying C (yk_X6_isSaying) l1_X6_22 (by decide) d_X6_init_41 (fun v hv => ct_X6_isSaying v2 4 (okc rfl) hv) rfl rfl (Nat.le_of_ble_eq_true rfl) h (fun v3 o3 h => ?_)
      refine V_if_eq (tgt := 55) C d_X6_init_44 (by decide) o3 h (fun h => ?_) (fun h => ?_)
      · skip
        refine V_iinc (j := 2) (lv' := [(2, iv_i (wr_i (x2 + 1))), (0, .ref (G.1 + x0)), (1, iv_i x1)]) C d_X6_init_55 rfl (by decide) rfl ?_
        refine V_goto (tgt := 23) C d_X6_init_58 (by decide) ?_
        refine V_lv [1, 2, 0] rfl (ih M1 x1 (wr_i (x2 + 1)) o_x1 (ok_wr _) h)
      · skip
        refine V_aload_n (j := 0) C d_X6_init_47 rfl rfl ?_
        refine V_iload_n (j := 1) C d_X6_init_48 rfl rfl ?_
        refine V_callVwv (K' := K_X6_addOrder) (a := x0) (ci := 6) (av := [iv_i x1]) (rest := []) yi_X6_addOrder (by decide) rfl C (yk_X6_addOrder) l1_X6_26 (by decide) d_X6_init_49 (fun v hv => ct_X6_addOrder x0 x1 o_x1 hv) rfl rfl (Nat.le_of_ble_eq_true rfl) h (fun M4 h => ?_)
        refine V_iinc (j := 1) (lv' := [(1, iv_i (wr_i (x1 + 1))), (0, .ref (G.1 + x0)), (2, iv_i x2)]) C d_X6_init_52 rfl (by decide) rfl ?_
        refine V_iinc (j := 2) (lv' := [(2, iv_i (wr_i (x2 + 1))), (1, iv_i (wr_i (x1 + 1))), (0, .ref (G.1 + x0))]) C d_X6_init_55 rfl (by decide) rfl ?_
        refine V_goto (tgt := 23) C d_X6_init_58 (by decide) ?_
        refine V_lv [2, 1, 0] rfl (ih M4 (wr_i (x1 + 1)) (wr_i (x2 + 1)) (ok_wr _) (ok_wr _) h)
    · skip
      exact V_lv [] rfl (hR _ h)
set_option maxHeartbeats 4000000 in
set_option maxRecDepth 100000 in
theorem t_X6_init {X : XT_x} {G : GT_g} {M : Mem_m} {z : Mem_m} (C : Cx_ (K_X6_init) X G) {Q : State → Prop} (hR : ∀ M : Mem_m, some M = some z → V_ (K_X6_init) X G Q M 61 [] []) (x0 : Nat)  (h : f_X6_init G.2.2.2 M x0 = some z) : V_ (K_X6_init) X G Q M 19 [(0, .ref (G.1 + x0))] [] := by
  unfold f_X6_init at h
  refine V_iconst C d_X6_init_19 ?_
  refine V_istore_n (lv' := [(1, iv_i 0), (0, .ref (G.1 + x0))]) C d_X6_init_20 rfl (by decide) rfl ?_
  refine V_iconst C d_X6_init_21 ?_
  refine V_istore_n (lv' := [(2, iv_i 0), (1, iv_i 0), (0, .ref (G.1 + x0))]) C d_X6_init_22 rfl (by decide) rfl ?_
  refine V_lv [2, 1, 0] rfl (t_X6_init_23 C hR x0 FU_ M 0 0 (okc rfl) (okc rfl) h)
