theorem iob_X11_1 : Cond.methodLink RX11 1 Lib.objectInit ∈ TB_t := tb_in (qt_1 (List.mem_of_getElem? (i := 28) (by decide +kernel))) rfl
theorem icl_X11_7 : Cond.classLink RX11 7 (vN_ 0) ∈ TB_t := tb_in (qt_1 (List.mem_of_getElem? (i := 31) (by decide +kernel))) rfl
theorem im1_X11_9 : L1_ RX11 9 yX0_init := tb_in (qt_1 (List.mem_of_getElem? (i := 33) (by decide +kernel))) rfl
theorem ifw_X11_10 : FW_ RX11 10 11 0 := ⟨by decide, by decide, tb_in (qt_2 (List.mem_of_getElem? (i := 182) (by decide +kernel))) rfl⟩
theorem ifw_X11_16 : FW_ RX11 16 11 1 := ⟨by decide, by decide, tb_in (qt_2 (List.mem_of_getElem? (i := 183) (by decide +kernel))) rfl⟩
theorem icl_X11_19 : Cond.classLink RX11 19 (vN_ 9) ∈ TB_t := tb_in (qt_2 (List.mem_of_getElem? (i := 19) (by decide +kernel))) rfl
theorem ifw_X11_21 : FW_ RX11 21 11 3 := ⟨by decide, by decide, tb_in (qt_2 (List.mem_of_getElem? (i := 185) (by decide +kernel))) rfl⟩
theorem icl_X11_25 : Cond.classLink RX11 25 (vN_ 2) ∈ TB_t := tb_in (qt_2 (List.mem_of_getElem? (i := 21) (by decide +kernel))) rfl
theorem im2_X11_27 : L2_ RX11 27 yX2_init "TongueBook" := List.mem_filter.mpr ⟨qt_2 (List.mem_of_getElem? (i := 23) (by decide +kernel)), rfl⟩
theorem ifw_X11_28 : FW_ RX11 28 11 4 := ⟨by decide, by decide, tb_in (qt_2 (List.mem_of_getElem? (i := 186) (by decide +kernel))) rfl⟩
theorem icl_X11_32 : Cond.classLink RX11 32 (vN_ 3) ∈ TB_t := tb_in (qt_2 (List.mem_of_getElem? (i := 65) (by decide +kernel))) rfl
theorem im2_X11_34 : L2_ RX11 34 yX3_init "TongueBook" := List.mem_filter.mpr ⟨qt_2 (List.mem_of_getElem? (i := 67) (by decide +kernel)), rfl⟩
theorem ifw_X11_35 : FW_ RX11 35 11 5 := ⟨by decide, by decide, tb_in (qt_2 (List.mem_of_getElem? (i := 187) (by decide +kernel))) rfl⟩
theorem icl_X11_39 : Cond.classLink RX11 39 (vN_ 6) ∈ TB_t := tb_in (qt_2 (List.mem_of_getElem? (i := 90) (by decide +kernel))) rfl
theorem im1_X11_41 : L1_ RX11 41 yX6_init := tb_in (qt_2 (List.mem_of_getElem? (i := 92) (by decide +kernel))) rfl
theorem ifw_X11_42 : FW_ RX11 42 11 6 := ⟨by decide, by decide, tb_in (qt_2 (List.mem_of_getElem? (i := 188) (by decide +kernel))) rfl⟩
theorem icl_X11_46 : Cond.classLink RX11 46 (vN_ 4) ∈ TB_t := tb_in (qt_2 (List.mem_of_getElem? (i := 125) (by decide +kernel))) rfl
theorem im2_X11_48 : L2_ RX11 48 yX4_init "TongueBook" := List.mem_filter.mpr ⟨qt_2 (List.mem_of_getElem? (i := 127) (by decide +kernel)), rfl⟩
theorem ifw_X11_49 : FW_ RX11 49 11 7 := ⟨by decide, by decide, tb_in (qt_2 (List.mem_of_getElem? (i := 189) (by decide +kernel))) rfl⟩
theorem icl_X11_53 : Cond.classLink RX11 53 (vN_ 7) ∈ TB_t := tb_in (qt_2 (List.mem_of_getElem? (i := 146) (by decide +kernel))) rfl
theorem im2_X11_55 : L2_ RX11 55 yX7_init "TongueBook" := List.mem_filter.mpr ⟨qt_2 (List.mem_of_getElem? (i := 147) (by decide +kernel)), rfl⟩
theorem ifw_X11_56 : FW_ RX11 56 11 8 := ⟨by decide, by decide, tb_in (qt_2 (List.mem_of_getElem? (i := 190) (by decide +kernel))) rfl⟩
theorem im2_X11_60 : L2_ RX11 60 yX9_init "TongueBook" := List.mem_filter.mpr ⟨qt_2 (List.mem_of_getElem? (i := 149) (by decide +kernel)), rfl⟩
theorem sh_k : ∀ i, i < 8 → (kd0_ (536 + 7 * i)).1 = 9 ∧ (kd0_ (536 + 7 * i + 1)).1 = 5 ∧ (kd0_ (536 + 7 * i + 2)).1 = 10 ∧ kd0_ (536 + 7 * i + 3) = (20, 8) ∧ (kd0_ (536 + 7 * i + 4)).1 = 10 ∧ kd0_ (536 + 7 * i + 5) = (20, 8) ∧ kd0_ (536 + 7 * i + 6) = (20, 80) := by decide +kernel
set_option maxHeartbeats 4000000 in
set_option maxRecDepth 100000 in
theorem in_X11 {l : Launch} {B : Nat} {D : va_G} {ca : Nat → ClassId} {M z : Mem_m} (hz : ∀ x, x < 592 → (x < 528 ∨ 531 ≤ x) → M x = fun _ => 0) (hf : f_X6_init S6_ Z_m 0 = some z) (hM6 : ∀ k, k < 3 → M (528 + k) = z k) : IN_ l yX11_init K_X11_init 591 6096 (G0_ B D ca) M 0 592 11 := by
  refine in_of (by decide +kernel) rfl rfl (by decide) (fun X hl C hcells hslots => ?_)
  subst hl
  have hcb : cE_c (G0_ B D ca) M 0 = .inr (11, ((((((((fresh_ 11).set 0 (.ref (B + 1))).set 1 (.ref (B + 259))).set 3 (.ref (B + 517))).set 4 (.ref (B + 518))).set 5 (.ref (B + 524))).set 6 (.ref (B + 528))).set 7 (.ref (B + 531))).set 8 (.ref (B + 535))) := cE_o (ci := 11) rfl (by decide) (by rw [hz 0 (by omega) (by omega), fr_11]; rfl)
  refine I_aload_n (j := 0) C d_X11_init_0 rfl rfl ?_
  refine I_obj C iob_X11_1 ob_ok (by decide) (Nat.le_of_ble_eq_true rfl) d_X11_init_1 ?_
  refine I_aload_n (j := 0) C d_X11_init_4 rfl rfl ?_
  refine I_new (ci := 0) (nf := 15) rfl C (by decide) ck_0 icl_X11_7 ii_0.1 ii_0.2 (by omega) (by omega) d_X11_init_5 ?_
  refine I_dup C d_X11_init_8 rfl ?_
  refine I_call (b := 1) (n' := 259) C yn_X0 im1_X11_9 (by decide) (in_X0 (a := 1) (Or.inl rfl) (fun x h1 h2 => hz x (by omega) (by omega))) (by omega) rfl (up_eq) (by omega) (by omega) (Nat.le_of_ble_eq_true rfl) d_X11_init_9 ?_
  refine I_putF (a := 0) (b := 1) (ci := 11) (fs := fresh_ 11) (ty := tyX11 0) C (by decide) ck_11 ((cl_ne (by omega)).trans <| (up_ne (by omega)).trans <| rfl) ⟨by omega, by omega⟩ ifw_X11_10 rfl rfl (tyX11_ok 0 (by decide)) rfl rfl (by simp only [List.length_set, fr_len]; decide) d_X11_init_12 ?_
  refine I_aload_n (j := 0) C d_X11_init_15 rfl rfl ?_
  refine I_new (ci := 0) (nf := 15) rfl C (by decide) ck_0 icl_X11_7 ii_0.1 ii_0.2 (by omega) (by omega) d_X11_init_16 ?_
  refine I_dup C d_X11_init_19 rfl ?_
  refine I_call (b := 259) (n' := 517) C yn_X0 im1_X11_9 (by decide) (in_X0 (a := 259) (Or.inr rfl) (fun x h1 h2 => hz x (by omega) (by omega))) (by omega) rfl (up_eq) (by omega) (by omega) (Nat.le_of_ble_eq_true rfl) d_X11_init_20 ?_
  refine I_putF (a := 0) (b := 259) (ci := 11) (fs := (fresh_ 11).set 0 (.ref (B + 1))) (ty := tyX11 1) C (by decide) ck_11 ((cl_ne (by omega)).trans <| (up_ne (by omega)).trans <| up_eq) ⟨by omega, by omega⟩ ifw_X11_16 rfl rfl (tyX11_ok 1 (by decide)) rfl rfl (by simp only [List.length_set, fr_len]; decide) d_X11_init_23 ?_
  refine I_aload_n (j := 0) C d_X11_init_26 rfl rfl ?_
  refine I_bipush (v := 8) C d_X11_init_27 rfl ?_
  refine I_newq (Cn := "TongueBook$Shelf") (t := 5) (N := 8) C (by decide) icl_X11_19 tc_5 (by decide) (by omega) (by omega) d_X11_init_29 ?_
  refine I_putF (a := 0) (b := 517) (ci := 11) (fs := ((fresh_ 11).set 0 (.ref (B + 1))).set 1 (.ref (B + 259))) (ty := tyX11 3) C (by decide) ck_11 ((up_ne (by omega)).trans <| up_eq) ⟨by omega, by omega⟩ ifw_X11_21 rfl rfl (tyX11_ok 3 (by decide)) rfl rfl (by simp only [List.length_set, fr_len]; decide) d_X11_init_32 ?_
  refine I_aload_n (j := 0) C d_X11_init_35 rfl rfl ?_
  refine I_new (ci := 2) (nf := 10) rfl C (by decide) ck_2 icl_X11_25 ii_2.1 ii_2.2 (by omega) (by omega) d_X11_init_36 ?_
  refine I_dup C d_X11_init_39 rfl ?_
  refine I_callN (b := 518) (n' := 524) C yn_X2 im2_X11_27 (by decide) (in_X2 (a := 518) (by decide) (by decide) (by decide) (by decide) (by decide) (by decide) (fun x h1 h2 => hz x (by omega) (by omega))) (by omega) rfl (up_eq) (by omega) (by omega) (Nat.le_of_ble_eq_true rfl) d_X11_init_40 ?_
  refine I_putF (a := 0) (b := 518) (ci := 11) (fs := (((fresh_ 11).set 0 (.ref (B + 1))).set 1 (.ref (B + 259))).set 3 (.ref (B + 517))) (ty := tyX11 4) C (by decide) ck_11 ((cl_ne (by omega)).trans <| (up_ne (by omega)).trans <| up_eq) ⟨by omega, by omega⟩ ifw_X11_28 rfl rfl (tyX11_ok 4 (by decide)) rfl rfl (by simp only [List.length_set, fr_len]; decide) d_X11_init_43 ?_
  refine I_aload_n (j := 0) C d_X11_init_46 rfl rfl ?_
  refine I_new (ci := 3) (nf := 5) rfl C (by decide) ck_3 icl_X11_32 ii_3.1 ii_3.2 (by omega) (by omega) d_X11_init_47 ?_
  refine I_dup C d_X11_init_50 rfl ?_
  refine I_callN (b := 524) (n' := 528) C yn_X3 im2_X11_34 (by decide) (in_X3 (a := 524) (by decide) (by decide) (by decide) (by decide) (fun x h1 h2 => hz x (by omega) (by omega))) (by omega) rfl (up_eq) (by omega) (by omega) (Nat.le_of_ble_eq_true rfl) d_X11_init_51 ?_
  refine I_putF (a := 0) (b := 524) (ci := 11) (fs := ((((fresh_ 11).set 0 (.ref (B + 1))).set 1 (.ref (B + 259))).set 3 (.ref (B + 517))).set 4 (.ref (B + 518))) (ty := tyX11 5) C (by decide) ck_11 ((cl_ne (by omega)).trans <| (up_ne (by omega)).trans <| up_eq) ⟨by omega, by omega⟩ ifw_X11_35 rfl rfl (tyX11_ok 5 (by decide)) rfl rfl (by simp only [List.length_set, fr_len]; decide) d_X11_init_54 ?_
  refine I_aload_n (j := 0) C d_X11_init_57 rfl rfl ?_
  refine I_new (ci := 6) (nf := 4) rfl C (by decide) ck_6 icl_X11_39 ii_6.1 ii_6.2 (by omega) (by omega) d_X11_init_58 ?_
  refine I_dup C d_X11_init_61 rfl ?_
  refine I_call (b := 528) (n' := 531) C yn_X6 im1_X11_41 (by decide) (in_X6 (a := 528) (by decide) (by decide) (by decide) hf hM6) (by omega) rfl (up_eq) (by omega) (by omega) (Nat.le_of_ble_eq_true rfl) d_X11_init_62 ?_
  refine I_putF (a := 0) (b := 528) (ci := 11) (fs := (((((fresh_ 11).set 0 (.ref (B + 1))).set 1 (.ref (B + 259))).set 3 (.ref (B + 517))).set 4 (.ref (B + 518))).set 5 (.ref (B + 524))) (ty := tyX11 6) C (by decide) ck_11 ((cl_ne (by omega)).trans <| (up_ne (by omega)).trans <| up_eq) ⟨by omega, by omega⟩ ifw_X11_42 rfl rfl (tyX11_ok 6 (by decide)) rfl rfl (by simp only [List.length_set, fr_len]; decide) d_X11_init_65 ?_
  refine I_aload_n (j := 0) C d_X11_init_68 rfl rfl ?_
  refine I_new (ci := 4) (nf := 4) rfl C (by decide) ck_4 icl_X11_46 ii_4.1 ii_4.2 (by omega) (by omega) d_X11_init_69 ?_
  refine I_dup C d_X11_init_72 rfl ?_
  refine I_callN (b := 531) (n' := 535) C yn_X4 im2_X11_48 (by decide) (in_X4 (a := 531) (by decide) (by decide) (by decide) (by decide) (fun x h1 h2 => hz x (by omega) (by omega))) (by omega) rfl (up_eq) (by omega) (by omega) (Nat.le_of_ble_eq_true rfl) d_X11_init_73 ?_
  refine I_putF (a := 0) (b := 531) (ci := 11) (fs := ((((((fresh_ 11).set 0 (.ref (B + 1))).set 1 (.ref (B + 259))).set 3 (.ref (B + 517))).set 4 (.ref (B + 518))).set 5 (.ref (B + 524))).set 6 (.ref (B + 528))) (ty := tyX11 7) C (by decide) ck_11 ((cl_ne (by omega)).trans <| (up_ne (by omega)).trans <| up_eq) ⟨by omega, by omega⟩ ifw_X11_49 rfl rfl (tyX11_ok 7 (by decide)) rfl rfl (by simp only [List.length_set, fr_len]; decide) d_X11_init_76 ?_
  refine I_aload_n (j := 0) C d_X11_init_79 rfl rfl ?_
  refine I_new (ci := 7) (nf := 5) rfl C (by decide) ck_7 icl_X11_53 ii_7.1 ii_7.2 (by omega) (by omega) d_X11_init_80 ?_
  refine I_dup C d_X11_init_83 rfl ?_
  refine I_callN (b := 535) (n' := 536) C yn_X7 im2_X11_55 (by decide) (in_X7 (a := 535) (by decide) (fun x h1 h2 => hz x (by omega) (by omega))) (by omega) rfl (up_eq) (by omega) (by omega) (Nat.le_of_ble_eq_true rfl) d_X11_init_84 ?_
  refine I_putF (a := 0) (b := 535) (ci := 11) (fs := (((((((fresh_ 11).set 0 (.ref (B + 1))).set 1 (.ref (B + 259))).set 3 (.ref (B + 517))).set 4 (.ref (B + 518))).set 5 (.ref (B + 524))).set 6 (.ref (B + 528))).set 7 (.ref (B + 531))) (ty := tyX11 8) C (by decide) ck_11 ((cl_ne (by omega)).trans <| (up_ne (by omega)).trans <| up_eq) ⟨by omega, by omega⟩ ifw_X11_56 rfl rfl (tyX11_ok 8 (by decide)) rfl rfl (by simp only [List.length_set, fr_len]; decide) d_X11_init_87 ?_
  refine I_iconst C d_X11_init_90 ?_
  refine I_istore_n (lv' := [(1, iv_i 0), (0, .ref (B + 0))]) C d_X11_init_91 rfl (by decide) rfl ?_
  refine I_ext (E' := up_E (cE_c (G0_ B D ca) M) 517 (ar_E ca 5 8 (pf_ (rO_c B SH0_ 517) 0))) (fun x h1 h2 => ?_) ?_
  · skip
    by_cases hx0 : x = 0
    · rw [hx0, up_eq, up_ne (by decide)]; exact hcb.symm
    rw [up_ne hx0]
    by_cases hy535 : 535 ≤ x
    · rw [cl_in hy535, up_ne (by omega)]
    rw [cl_ne hy535]
    rw [up_ne (by omega)]
    rw [up_ne hx0]
    by_cases hy531 : 531 ≤ x
    · rw [cl_in hy531, up_ne (by omega)]
    rw [cl_ne hy531]
    rw [up_ne (by omega)]
    rw [up_ne hx0]
    by_cases hy528 : 528 ≤ x
    · rw [cl_in hy528, up_ne (by omega)]
    rw [cl_ne hy528]
    rw [up_ne (by omega)]
    rw [up_ne hx0]
    by_cases hy524 : 524 ≤ x
    · rw [cl_in hy524, up_ne (by omega)]
    rw [cl_ne hy524]
    rw [up_ne (by omega)]
    rw [up_ne hx0]
    by_cases hy518 : 518 ≤ x
    · rw [cl_in hy518, up_ne (by omega)]
    rw [cl_ne hy518]
    rw [up_ne (by omega)]
    rw [up_ne hx0]
    by_cases hx517 : x = 517
    · rw [hx517, up_eq, up_eq, pf_0]; rfl
    rw [up_ne hx517]
    rw [up_ne hx0]
    by_cases hy259 : 259 ≤ x
    · rw [cl_in hy259, up_ne (by omega)]
    rw [cl_ne hy259]
    rw [up_ne (by omega)]
    rw [up_ne hx0]
    by_cases hy1 : 1 ≤ x
    · rw [cl_in hy1, up_ne (by omega)]
    rw [cl_ne hy1]
    rw [up_ne (by omega)]
    exfalso; omega
  refine I_at (cc' := 535 + 0 * (1 + 6)) (oo' := 5224 + 0 * (5 + 104)) (n' := 536 + 7 * 0) (by omega) (by omega) (by omega) ?_
  refine I_fill (a := 0) (r := 517) (t := 5) (N := 8) (ci := 9) (co := 11) (w := 7) (mc := 6) (ms := 104) (nf := 5) (h := 92) (ex := 117) (n0 := 536) (cc := 535) (oo := 5224) (k := 3) (fs := ((((((((fresh_ 11).set 0 (.ref (B + 1))).set 1 (.ref (B + 259))).set 3 (.ref (B + 517))).set 4 (.ref (B + 518))).set 5 (.ref (B + 524))).set 6 (.ref (B + 528))).set 7 (.ref (B + 531))).set 8 (.ref (B + 535))) (PT := (cE_c (G0_ B D ca) M)) C ⟨by omega, by omega⟩ (by decide) ck_11 hcb (fun x hx => rfl) ifw_X11_21 rfl tc_5 rfl (by decide) ck_9 rfl icl_X11_19 ii_9.1 ii_9.2 yn_X9 im2_X11_60 (by decide) (fun i hi => in_X9 (a := 536 + 7 * i) (sh_k i hi).1 (sh_k i hi).2.1 (sh_k i hi).2.2.1 (sh_k i hi).2.2.2.1 (sh_k i hi).2.2.2.2.1 (sh_k i hi).2.2.2.2.2.1 (sh_k i hi).2.2.2.2.2.2 (fun x h1 h2 => hz x (by omega) (by omega))) (fun i hi => (sh_k i hi).1) (fun i hi => rO_s (by show (if i < 8 then _ else _) = _; rw [if_pos hi])) (by decide) (by decide) rfl (by omega) (by omega) (by decide) d_X11_init_92 d_X11_init_93 d_X11_init_95 d_X11_init_98 d_X11_init_99 d_X11_init_102 d_X11_init_103 d_X11_init_106 d_X11_init_107 d_X11_init_110 d_X11_init_111 d_X11_init_114 rfl rfl ?_ 8 0 rfl
  refine I_at (cc' := 591) (oo' := 6096) (n' := 592) rfl rfl rfl ?_
  refine I_ext (E' := (cE_c (G0_ B D ca) M)) (fun x h1 h2 => ?_) ?_
  · skip
    by_cases hx : x = 517
    · rw [hx, up_eq, ar_full (M := M) (D := D) (r := 517) (t := 5) (by decide) (by decide) (fun k hk => by show (if k < 8 then _ else _) = 0; rw [if_neg (by omega)])]
    · rw [up_ne hx]
  exact I_lv [1] rfl (I_vret C d_X11_init_117 rfl rfl (fun x h1 h2 => rfl))
