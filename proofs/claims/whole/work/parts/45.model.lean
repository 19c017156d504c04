theorem iob_X12_1 : Cond.methodLink RX12 1 Lib.objectInit ∈ TB_t := tb_in (qt_5 (List.mem_of_getElem? (i := 115) (by decide +kernel))) rfl
theorem ifw_X12_9 : FW_ RX12 9 12 0 := ⟨by decide, by decide, tb_in (qt_5 (List.mem_of_getElem? (i := 116) (by decide +kernel))) rfl⟩
theorem ifw_X12_13 : FW_ RX12 13 12 1 := ⟨by decide, by decide, tb_in (qt_5 (List.mem_of_getElem? (i := 117) (by decide +kernel))) rfl⟩
theorem ifw_X12_16 : FW_ RX12 16 12 2 := ⟨by decide, by decide, tb_in (qt_5 (List.mem_of_getElem? (i := 118) (by decide +kernel))) rfl⟩
theorem ifw_X12_19 : FW_ RX12 19 12 3 := ⟨by decide, by decide, tb_in (qt_5 (List.mem_of_getElem? (i := 119) (by decide +kernel))) rfl⟩
theorem ifw_X12_22 : FW_ RX12 22 12 4 := ⟨by decide, by decide, tb_in (qt_5 (List.mem_of_getElem? (i := 120) (by decide +kernel))) rfl⟩
theorem ifw_X12_25 : FW_ RX12 25 12 5 := ⟨by decide, by decide, tb_in (qt_5 (List.mem_of_getElem? (i := 121) (by decide +kernel))) rfl⟩
theorem ifw_X12_28 : FW_ RX12 28 12 6 := ⟨by decide, by decide, tb_in (qt_5 (List.mem_of_getElem? (i := 122) (by decide +kernel))) rfl⟩
theorem ifw_X12_31 : FW_ RX12 31 12 7 := ⟨by decide, by decide, tb_in (qt_5 (List.mem_of_getElem? (i := 123) (by decide +kernel))) rfl⟩
theorem ifw_X12_34 : FW_ RX12 34 12 11 := ⟨by decide, by decide, tb_in (qt_5 (List.mem_of_getElem? (i := 127) (by decide +kernel))) rfl⟩
theorem ifw_X12_37 : FW_ RX12 37 12 12 := ⟨by decide, by decide, tb_in (qt_5 (List.mem_of_getElem? (i := 128) (by decide +kernel))) rfl⟩
theorem ifw_X12_40 : FW_ RX12 40 12 13 := ⟨by decide, by decide, tb_in (qt_5 (List.mem_of_getElem? (i := 129) (by decide +kernel))) rfl⟩
theorem ifw_X12_43 : FW_ RX12 43 12 17 := ⟨by decide, by decide, tb_in (qt_5 (List.mem_of_getElem? (i := 133) (by decide +kernel))) rfl⟩
theorem ifw_X12_46 : FW_ RX12 46 12 18 := ⟨by decide, by decide, tb_in (qt_5 (List.mem_of_getElem? (i := 134) (by decide +kernel))) rfl⟩
theorem ifw_X12_49 : FW_ RX12 49 12 19 := ⟨by decide, by decide, tb_in (qt_5 (List.mem_of_getElem? (i := 135) (by decide +kernel))) rfl⟩
theorem ifw_X12_52 : FW_ RX12 52 12 23 := ⟨by decide, by decide, tb_in (qt_5 (List.mem_of_getElem? (i := 139) (by decide +kernel))) rfl⟩
theorem ifw_X12_56 : FW_ RX12 56 12 26 := ⟨by decide, by decide, tb_in (qt_5 (List.mem_of_getElem? (i := 142) (by decide +kernel))) rfl⟩
theorem ifw_X12_59 : FW_ RX12 59 12 27 := ⟨by decide, by decide, tb_in (qt_5 (List.mem_of_getElem? (i := 143) (by decide +kernel))) rfl⟩
theorem ifw_X12_62 : FW_ RX12 62 12 28 := ⟨by decide, by decide, tb_in (qt_5 (List.mem_of_getElem? (i := 144) (by decide +kernel))) rfl⟩
set_option maxHeartbeats 4000000 in
set_option maxRecDepth 100000 in
theorem in_X12 {l : Launch} {B : Nat} {D : va_G} {ca : Nat → ClassId} {M : Mem_m} {a : Nat} (hk0 : (kd0_ a).1 = 12) (hk1 : kd0_ (a + 1) = (20, 1067)) (hk2 : kd0_ (a + 2) = (20, 1067)) (hk3 : kd0_ (a + 3) = (20, 8)) (hk4 : kd0_ (a + 4) = (20, 8)) (hk5 : kd0_ (a + 5) = (20, 8)) (hk6 : kd0_ (a + 6) = (20, 640)) (hk7 : kd0_ (a + 7) = (20, 8)) (hk8 : kd0_ (a + 8) = (20, 8)) (hk9 : kd0_ (a + 9) = (20, 9)) (hk10 : kd0_ (a + 10) = (20, 9)) (hk11 : kd0_ (a + 11) = (20, 10)) (hk12 : kd0_ (a + 12) = (20, 8)) (hk13 : kd0_ (a + 13) = (20, 80)) (hk14 : kd0_ (a + 14) = (20, 80)) (hk15 : kd0_ (a + 15) = (21, 24)) (hk16 : kd0_ (a + 16) = (20, 10)) (hk17 : kd0_ (a + 17) = (20, 100)) (hk18 : kd0_ (a + 18) = (20, 10)) (hz : ∀ x, a ≤ x → x < (a + 19) → M x = fun _ => 0) : IN_ l yX12_init K_X12_init 18 3154 (G0_ B D ca) M a (a + 19) 12 := by
  refine in_of (by decide +kernel) rfl rfl (by decide) (fun X hl C hcells hslots => ?_)
  subst hl
  refine I_aload_n (j := 0) C d_X12_init_0 rfl rfl ?_
  refine I_obj C iob_X12_1 ob_ok (by decide) (Nat.le_of_ble_eq_true rfl) d_X12_init_1 ?_
  refine I_aload_n (j := 0) C d_X12_init_4 rfl rfl ?_
  refine I_sipush (v := 1067) C d_X12_init_5 rfl ?_
  refine I_newarr (aty := .int) (ty := .int) (t := 0) (N := 1067) (v0 := 0) C rfl ia_int rfl (fun _ _ h => h) rfl (by decide) (by decide) (by omega) (by omega) d_X12_init_8 ?_
  refine I_putF (a := a) (b := (a + 1)) (ci := 12) (fs := fresh_ 12) (ty := tyX12 0) C (by decide) ck_12 ((up_ne (by omega)).trans <| rfl) ⟨by omega, by omega⟩ ifw_X12_9 rfl rfl (tyX12_ok 0 (by decide)) rfl rfl (by simp only [List.length_set, fr_len]; decide) d_X12_init_10 ?_
  refine I_aload_n (j := 0) C d_X12_init_13 rfl rfl ?_
  refine I_sipush (v := 1067) C d_X12_init_14 rfl ?_
  refine I_newarr (aty := .int) (ty := .int) (t := 0) (N := 1067) (v0 := 0) C rfl ia_int rfl (fun _ _ h => h) rfl (by decide) (by decide) (by omega) (by omega) d_X12_init_17 ?_
  refine I_putF (a := a) (b := (a + 2)) (ci := 12) (fs := (fresh_ 12).set 0 (.ref (B + (a + 1)))) (ty := tyX12 1) C (by decide) ck_12 ((up_ne (by omega)).trans <| up_eq) ⟨by omega, by omega⟩ ifw_X12_13 rfl rfl (tyX12_ok 1 (by decide)) rfl rfl (by simp only [List.length_set, fr_len]; decide) d_X12_init_19 ?_
  refine I_aload_n (j := 0) C d_X12_init_22 rfl rfl ?_
  refine I_bipush (v := 8) C d_X12_init_23 rfl ?_
  refine I_newarr (aty := .int) (ty := .int) (t := 0) (N := 8) (v0 := 0) C rfl ia_int rfl (fun _ _ h => h) rfl (by decide) (by decide) (by omega) (by omega) d_X12_init_25 ?_
  refine I_putF (a := a) (b := (a + 3)) (ci := 12) (fs := ((fresh_ 12).set 0 (.ref (B + (a + 1)))).set 1 (.ref (B + (a + 2)))) (ty := tyX12 2) C (by decide) ck_12 ((up_ne (by omega)).trans <| up_eq) ⟨by omega, by omega⟩ ifw_X12_16 rfl rfl (tyX12_ok 2 (by decide)) rfl rfl (by simp only [List.length_set, fr_len]; decide) d_X12_init_27 ?_
  refine I_aload_n (j := 0) C d_X12_init_30 rfl rfl ?_
  refine I_bipush (v := 8) C d_X12_init_31 rfl ?_
  refine I_newarr (aty := .int) (ty := .int) (t := 0) (N := 8) (v0 := 0) C rfl ia_int rfl (fun _ _ h => h) rfl (by decide) (by decide) (by omega) (by omega) d_X12_init_33 ?_
  refine I_putF (a := a) (b := (a + 4)) (ci := 12) (fs := (((fresh_ 12).set 0 (.ref (B + (a + 1)))).set 1 (.ref (B + (a + 2)))).set 2 (.ref (B + (a + 3)))) (ty := tyX12 3) C (by decide) ck_12 ((up_ne (by omega)).trans <| up_eq) ⟨by omega, by omega⟩ ifw_X12_19 rfl rfl (tyX12_ok 3 (by decide)) rfl rfl (by simp only [List.length_set, fr_len]; decide) d_X12_init_35 ?_
  refine I_aload_n (j := 0) C d_X12_init_38 rfl rfl ?_
  refine I_bipush (v := 8) C d_X12_init_39 rfl ?_
  refine I_newarr (aty := .int) (ty := .int) (t := 0) (N := 8) (v0 := 0) C rfl ia_int rfl (fun _ _ h => h) rfl (by decide) (by decide) (by omega) (by omega) d_X12_init_41 ?_
  refine I_putF (a := a) (b := (a + 5)) (ci := 12) (fs := ((((fresh_ 12).set 0 (.ref (B + (a + 1)))).set 1 (.ref (B + (a + 2)))).set 2 (.ref (B + (a + 3)))).set 3 (.ref (B + (a + 4)))) (ty := tyX12 4) C (by decide) ck_12 ((up_ne (by omega)).trans <| up_eq) ⟨by omega, by omega⟩ ifw_X12_22 rfl rfl (tyX12_ok 4 (by decide)) rfl rfl (by simp only [List.length_set, fr_len]; decide) d_X12_init_43 ?_
  refine I_aload_n (j := 0) C d_X12_init_46 rfl rfl ?_
  refine I_sipush (v := 640) C d_X12_init_47 rfl ?_
  refine I_newarr (aty := .int) (ty := .int) (t := 0) (N := 640) (v0 := 0) C rfl ia_int rfl (fun _ _ h => h) rfl (by decide) (by decide) (by omega) (by omega) d_X12_init_50 ?_
  refine I_putF (a := a) (b := (a + 6)) (ci := 12) (fs := (((((fresh_ 12).set 0 (.ref (B + (a + 1)))).set 1 (.ref (B + (a + 2)))).set 2 (.ref (B + (a + 3)))).set 3 (.ref (B + (a + 4)))).set 4 (.ref (B + (a + 5)))) (ty := tyX12 5) C (by decide) ck_12 ((up_ne (by omega)).trans <| up_eq) ⟨by omega, by omega⟩ ifw_X12_25 rfl rfl (tyX12_ok 5 (by decide)) rfl rfl (by simp only [List.length_set, fr_len]; decide) d_X12_init_52 ?_
  refine I_aload_n (j := 0) C d_X12_init_55 rfl rfl ?_
  refine I_bipush (v := 8) C d_X12_init_56 rfl ?_
  refine I_newarr (aty := .int) (ty := .int) (t := 0) (N := 8) (v0 := 0) C rfl ia_int rfl (fun _ _ h => h) rfl (by decide) (by decide) (by omega) (by omega) d_X12_init_58 ?_
  refine I_putF (a := a) (b := (a + 7)) (ci := 12) (fs := ((((((fresh_ 12).set 0 (.ref (B + (a + 1)))).set 1 (.ref (B + (a + 2)))).set 2 (.ref (B + (a + 3)))).set 3 (.ref (B + (a + 4)))).set 4 (.ref (B + (a + 5)))).set 5 (.ref (B + (a + 6)))) (ty := tyX12 6) C (by decide) ck_12 ((up_ne (by omega)).trans <| up_eq) ⟨by omega, by omega⟩ ifw_X12_28 rfl rfl (tyX12_ok 6 (by decide)) rfl rfl (by simp only [List.length_set, fr_len]; decide) d_X12_init_60 ?_
  refine I_aload_n (j := 0) C d_X12_init_63 rfl rfl ?_
  refine I_bipush (v := 8) C d_X12_init_64 rfl ?_
  refine I_newarr (aty := .int) (ty := .int) (t := 0) (N := 8) (v0 := 0) C rfl ia_int rfl (fun _ _ h => h) rfl (by decide) (by decide) (by omega) (by omega) d_X12_init_66 ?_
  refine I_putF (a := a) (b := (a + 8)) (ci := 12) (fs := (((((((fresh_ 12).set 0 (.ref (B + (a + 1)))).set 1 (.ref (B + (a + 2)))).set 2 (.ref (B + (a + 3)))).set 3 (.ref (B + (a + 4)))).set 4 (.ref (B + (a + 5)))).set 5 (.ref (B + (a + 6)))).set 6 (.ref (B + (a + 7)))) (ty := tyX12 7) C (by decide) ck_12 ((up_ne (by omega)).trans <| up_eq) ⟨by omega, by omega⟩ ifw_X12_31 rfl rfl (tyX12_ok 7 (by decide)) rfl rfl (by simp only [List.length_set, fr_len]; decide) d_X12_init_68 ?_
  refine I_aload_n (j := 0) C d_X12_init_71 rfl rfl ?_
  refine I_bipush (v := 9) C d_X12_init_72 rfl ?_
  refine I_newarr (aty := .int) (ty := .int) (t := 0) (N := 9) (v0 := 0) C rfl ia_int rfl (fun _ _ h => h) rfl (by decide) (by decide) (by omega) (by omega) d_X12_init_74 ?_
  refine I_putF (a := a) (b := (a + 9)) (ci := 12) (fs := ((((((((fresh_ 12).set 0 (.ref (B + (a + 1)))).set 1 (.ref (B + (a + 2)))).set 2 (.ref (B + (a + 3)))).set 3 (.ref (B + (a + 4)))).set 4 (.ref (B + (a + 5)))).set 5 (.ref (B + (a + 6)))).set 6 (.ref (B + (a + 7)))).set 7 (.ref (B + (a + 8)))) (ty := tyX12 11) C (by decide) ck_12 ((up_ne (by omega)).trans <| up_eq) ⟨by omega, by omega⟩ ifw_X12_34 rfl rfl (tyX12_ok 11 (by decide)) rfl rfl (by simp only [List.length_set, fr_len]; decide) d_X12_init_76 ?_
  refine I_aload_n (j := 0) C d_X12_init_79 rfl rfl ?_
  refine I_bipush (v := 9) C d_X12_init_80 rfl ?_
  refine I_newarr (aty := .int) (ty := .int) (t := 0) (N := 9) (v0 := 0) C rfl ia_int rfl (fun _ _ h => h) rfl (by decide) (by decide) (by omega) (by omega) d_X12_init_82 ?_
  refine I_putF (a := a) (b := (a + 10)) (ci := 12) (fs := (((((((((fresh_ 12).set 0 (.ref (B + (a + 1)))).set 1 (.ref (B + (a + 2)))).set 2 (.ref (B + (a + 3)))).set 3 (.ref (B + (a + 4)))).set 4 (.ref (B + (a + 5)))).set 5 (.ref (B + (a + 6)))).set 6 (.ref (B + (a + 7)))).set 7 (.ref (B + (a + 8)))).set 11 (.ref (B + (a + 9)))) (ty := tyX12 12) C (by decide) ck_12 ((up_ne (by omega)).trans <| up_eq) ⟨by omega, by omega⟩ ifw_X12_37 rfl rfl (tyX12_ok 12 (by decide)) rfl rfl (by simp only [List.length_set, fr_len]; decide) d_X12_init_84 ?_
  refine I_aload_n (j := 0) C d_X12_init_87 rfl rfl ?_
  refine I_bipush (v := 10) C d_X12_init_88 rfl ?_
  refine I_newarr (aty := .int) (ty := .int) (t := 0) (N := 10) (v0 := 0) C rfl ia_int rfl (fun _ _ h => h) rfl (by decide) (by decide) (by omega) (by omega) d_X12_init_90 ?_
  refine I_putF (a := a) (b := (a + 11)) (ci := 12) (fs := ((((((((((fresh_ 12).set 0 (.ref (B + (a + 1)))).set 1 (.ref (B + (a + 2)))).set 2 (.ref (B + (a + 3)))).set 3 (.ref (B + (a + 4)))).set 4 (.ref (B + (a + 5)))).set 5 (.ref (B + (a + 6)))).set 6 (.ref (B + (a + 7)))).set 7 (.ref (B + (a + 8)))).set 11 (.ref (B + (a + 9)))).set 12 (.ref (B + (a + 10)))) (ty := tyX12 13) C (by decide) ck_12 ((up_ne (by omega)).trans <| up_eq) ⟨by omega, by omega⟩ ifw_X12_40 rfl rfl (tyX12_ok 13 (by decide)) rfl rfl (by simp only [List.length_set, fr_len]; decide) d_X12_init_92 ?_
  refine I_aload_n (j := 0) C d_X12_init_95 rfl rfl ?_
  refine I_bipush (v := 8) C d_X12_init_96 rfl ?_
  refine I_newarr (aty := .int) (ty := .int) (t := 0) (N := 8) (v0 := 0) C rfl ia_int rfl (fun _ _ h => h) rfl (by decide) (by decide) (by omega) (by omega) d_X12_init_98 ?_
  refine I_putF (a := a) (b := (a + 12)) (ci := 12) (fs := (((((((((((fresh_ 12).set 0 (.ref (B + (a + 1)))).set 1 (.ref (B + (a + 2)))).set 2 (.ref (B + (a + 3)))).set 3 (.ref (B + (a + 4)))).set 4 (.ref (B + (a + 5)))).set 5 (.ref (B + (a + 6)))).set 6 (.ref (B + (a + 7)))).set 7 (.ref (B + (a + 8)))).set 11 (.ref (B + (a + 9)))).set 12 (.ref (B + (a + 10)))).set 13 (.ref (B + (a + 11)))) (ty := tyX12 17) C (by decide) ck_12 ((up_ne (by omega)).trans <| up_eq) ⟨by omega, by omega⟩ ifw_X12_43 rfl rfl (tyX12_ok 17 (by decide)) rfl rfl (by simp only [List.length_set, fr_len]; decide) d_X12_init_100 ?_
  refine I_aload_n (j := 0) C d_X12_init_103 rfl rfl ?_
  refine I_bipush (v := 80) C d_X12_init_104 rfl ?_
  refine I_newarr (aty := .int) (ty := .int) (t := 0) (N := 80) (v0 := 0) C rfl ia_int rfl (fun _ _ h => h) rfl (by decide) (by decide) (by omega) (by omega) d_X12_init_106 ?_
  refine I_putF (a := a) (b := (a + 13)) (ci := 12) (fs := ((((((((((((fresh_ 12).set 0 (.ref (B + (a + 1)))).set 1 (.ref (B + (a + 2)))).set 2 (.ref (B + (a + 3)))).set 3 (.ref (B + (a + 4)))).set 4 (.ref (B + (a + 5)))).set 5 (.ref (B + (a + 6)))).set 6 (.ref (B + (a + 7)))).set 7 (.ref (B + (a + 8)))).set 11 (.ref (B + (a + 9)))).set 12 (.ref (B + (a + 10)))).set 13 (.ref (B + (a + 11)))).set 17 (.ref (B + (a + 12)))) (ty := tyX12 18) C (by decide) ck_12 ((up_ne (by omega)).trans <| up_eq) ⟨by omega, by omega⟩ ifw_X12_46 rfl rfl (tyX12_ok 18 (by decide)) rfl rfl (by simp only [List.length_set, fr_len]; decide) d_X12_init_108 ?_
  refine I_aload_n (j := 0) C d_X12_init_111 rfl rfl ?_
  refine I_bipush (v := 80) C d_X12_init_112 rfl ?_
  refine I_newarr (aty := .int) (ty := .int) (t := 0) (N := 80) (v0 := 0) C rfl ia_int rfl (fun _ _ h => h) rfl (by decide) (by decide) (by omega) (by omega) d_X12_init_114 ?_
  refine I_putF (a := a) (b := (a + 14)) (ci := 12) (fs := (((((((((((((fresh_ 12).set 0 (.ref (B + (a + 1)))).set 1 (.ref (B + (a + 2)))).set 2 (.ref (B + (a + 3)))).set 3 (.ref (B + (a + 4)))).set 4 (.ref (B + (a + 5)))).set 5 (.ref (B + (a + 6)))).set 6 (.ref (B + (a + 7)))).set 7 (.ref (B + (a + 8)))).set 11 (.ref (B + (a + 9)))).set 12 (.ref (B + (a + 10)))).set 13 (.ref (B + (a + 11)))).set 17 (.ref (B + (a + 12)))).set 18 (.ref (B + (a + 13)))) (ty := tyX12 19) C (by decide) ck_12 ((up_ne (by omega)).trans <| up_eq) ⟨by omega, by omega⟩ ifw_X12_49 rfl rfl (tyX12_ok 19 (by decide)) rfl rfl (by simp only [List.length_set, fr_len]; decide) d_X12_init_116 ?_
  refine I_aload_n (j := 0) C d_X12_init_119 rfl rfl ?_
  refine I_bipush (v := 24) C d_X12_init_120 rfl ?_
  refine I_newarr (aty := .boolean) (ty := .boolean) (t := 1) (N := 24) (v0 := 0) C rfl ia_boo rfl (fun _ _ h => h) rfl (by decide) (by decide) (by omega) (by omega) d_X12_init_122 ?_
  refine I_putF (a := a) (b := (a + 15)) (ci := 12) (fs := ((((((((((((((fresh_ 12).set 0 (.ref (B + (a + 1)))).set 1 (.ref (B + (a + 2)))).set 2 (.ref (B + (a + 3)))).set 3 (.ref (B + (a + 4)))).set 4 (.ref (B + (a + 5)))).set 5 (.ref (B + (a + 6)))).set 6 (.ref (B + (a + 7)))).set 7 (.ref (B + (a + 8)))).set 11 (.ref (B + (a + 9)))).set 12 (.ref (B + (a + 10)))).set 13 (.ref (B + (a + 11)))).set 17 (.ref (B + (a + 12)))).set 18 (.ref (B + (a + 13)))).set 19 (.ref (B + (a + 14)))) (ty := tyX12 23) C (by decide) ck_12 ((up_ne (by omega)).trans <| up_eq) ⟨by omega, by omega⟩ ifw_X12_52 rfl rfl (tyX12_ok 23 (by decide)) rfl rfl (by simp only [List.length_set, fr_len]; decide) d_X12_init_124 ?_
  refine I_aload_n (j := 0) C d_X12_init_127 rfl rfl ?_
  refine I_bipush (v := 10) C d_X12_init_128 rfl ?_
  refine I_newarr (aty := .int) (ty := .int) (t := 0) (N := 10) (v0 := 0) C rfl ia_int rfl (fun _ _ h => h) rfl (by decide) (by decide) (by omega) (by omega) d_X12_init_130 ?_
  refine I_putF (a := a) (b := (a + 16)) (ci := 12) (fs := (((((((((((((((fresh_ 12).set 0 (.ref (B + (a + 1)))).set 1 (.ref (B + (a + 2)))).set 2 (.ref (B + (a + 3)))).set 3 (.ref (B + (a + 4)))).set 4 (.ref (B + (a + 5)))).set 5 (.ref (B + (a + 6)))).set 6 (.ref (B + (a + 7)))).set 7 (.ref (B + (a + 8)))).set 11 (.ref (B + (a + 9)))).set 12 (.ref (B + (a + 10)))).set 13 (.ref (B + (a + 11)))).set 17 (.ref (B + (a + 12)))).set 18 (.ref (B + (a + 13)))).set 19 (.ref (B + (a + 14)))).set 23 (.ref (B + (a + 15)))) (ty := tyX12 26) C (by decide) ck_12 ((up_ne (by omega)).trans <| up_eq) ⟨by omega, by omega⟩ ifw_X12_56 rfl rfl (tyX12_ok 26 (by decide)) rfl rfl (by simp only [List.length_set, fr_len]; decide) d_X12_init_132 ?_
  refine I_aload_n (j := 0) C d_X12_init_135 rfl rfl ?_
  refine I_bipush (v := 100) C d_X12_init_136 rfl ?_
  refine I_newarr (aty := .int) (ty := .int) (t := 0) (N := 100) (v0 := 0) C rfl ia_int rfl (fun _ _ h => h) rfl (by decide) (by decide) (by omega) (by omega) d_X12_init_138 ?_
  refine I_putF (a := a) (b := (a + 17)) (ci := 12) (fs := ((((((((((((((((fresh_ 12).set 0 (.ref (B + (a + 1)))).set 1 (.ref (B + (a + 2)))).set 2 (.ref (B + (a + 3)))).set 3 (.ref (B + (a + 4)))).set 4 (.ref (B + (a + 5)))).set 5 (.ref (B + (a + 6)))).set 6 (.ref (B + (a + 7)))).set 7 (.ref (B + (a + 8)))).set 11 (.ref (B + (a + 9)))).set 12 (.ref (B + (a + 10)))).set 13 (.ref (B + (a + 11)))).set 17 (.ref (B + (a + 12)))).set 18 (.ref (B + (a + 13)))).set 19 (.ref (B + (a + 14)))).set 23 (.ref (B + (a + 15)))).set 26 (.ref (B + (a + 16)))) (ty := tyX12 27) C (by decide) ck_12 ((up_ne (by omega)).trans <| up_eq) ⟨by omega, by omega⟩ ifw_X12_59 rfl rfl (tyX12_ok 27 (by decide)) rfl rfl (by simp only [List.length_set, fr_len]; decide) d_X12_init_140 ?_
  refine I_aload_n (j := 0) C d_X12_init_143 rfl rfl ?_
  refine I_bipush (v := 10) C d_X12_init_144 rfl ?_
  refine I_newarr (aty := .int) (ty := .int) (t := 0) (N := 10) (v0 := 0) C rfl ia_int rfl (fun _ _ h => h) rfl (by decide) (by decide) (by omega) (by omega) d_X12_init_146 ?_
  refine I_putF (a := a) (b := (a + 18)) (ci := 12) (fs := (((((((((((((((((fresh_ 12).set 0 (.ref (B + (a + 1)))).set 1 (.ref (B + (a + 2)))).set 2 (.ref (B + (a + 3)))).set 3 (.ref (B + (a + 4)))).set 4 (.ref (B + (a + 5)))).set 5 (.ref (B + (a + 6)))).set 6 (.ref (B + (a + 7)))).set 7 (.ref (B + (a + 8)))).set 11 (.ref (B + (a + 9)))).set 12 (.ref (B + (a + 10)))).set 13 (.ref (B + (a + 11)))).set 17 (.ref (B + (a + 12)))).set 18 (.ref (B + (a + 13)))).set 19 (.ref (B + (a + 14)))).set 23 (.ref (B + (a + 15)))).set 26 (.ref (B + (a + 16)))).set 27 (.ref (B + (a + 17)))) (ty := tyX12 28) C (by decide) ck_12 ((up_ne (by omega)).trans <| up_eq) ⟨by omega, by omega⟩ ifw_X12_62 rfl rfl (tyX12_ok 28 (by decide)) rfl rfl (by simp only [List.length_set, fr_len]; decide) d_X12_init_148 ?_
  refine I_vret C d_X12_init_151 (by omega) (by omega) (fun x h1 h2 => ?_)
  by_cases hx0 : x = a
  · rw [hx0, up_eq]; exact (cE_o hk0 (by decide) (by rw [hz a (by omega) (by omega), fr_12]; rfl)).symm
  rw [up_ne hx0]
  by_cases hx18 : x = (a + 18)
  · rw [hx18, up_eq]; exact (cE_i hk18 (hz (a + 18) (by omega) (by omega))).symm
  rw [up_ne hx18]
  rw [up_ne hx0]
  by_cases hx17 : x = (a + 17)
  · rw [hx17, up_eq]; exact (cE_i hk17 (hz (a + 17) (by omega) (by omega))).symm
  rw [up_ne hx17]
  rw [up_ne hx0]
  by_cases hx16 : x = (a + 16)
  · rw [hx16, up_eq]; exact (cE_i hk16 (hz (a + 16) (by omega) (by omega))).symm
  rw [up_ne hx16]
  rw [up_ne hx0]
  by_cases hx15 : x = (a + 15)
  · rw [hx15, up_eq]; exact (cE_z hk15 (hz (a + 15) (by omega) (by omega))).symm
  rw [up_ne hx15]
  rw [up_ne hx0]
  by_cases hx14 : x = (a + 14)
  · rw [hx14, up_eq]; exact (cE_i hk14 (hz (a + 14) (by omega) (by omega))).symm
  rw [up_ne hx14]
  rw [up_ne hx0]
  by_cases hx13 : x = (a + 13)
  · rw [hx13, up_eq]; exact (cE_i hk13 (hz (a + 13) (by omega) (by omega))).symm
  rw [up_ne hx13]
  rw [up_ne hx0]
  by_cases hx12 : x = (a + 12)
  · rw [hx12, up_eq]; exact (cE_i hk12 (hz (a + 12) (by omega) (by omega))).symm
  rw [up_ne hx12]
  rw [up_ne hx0]
  by_cases hx11 : x = (a + 11)
  · rw [hx11, up_eq]; exact (cE_i hk11 (hz (a + 11) (by omega) (by omega))).symm
  rw [up_ne hx11]
  rw [up_ne hx0]
  by_cases hx10 : x = (a + 10)
  · rw [hx10, up_eq]; exact (cE_i hk10 (hz (a + 10) (by omega) (by omega))).symm
  rw [up_ne hx10]
  rw [up_ne hx0]
  by_cases hx9 : x = (a + 9)
  · rw [hx9, up_eq]; exact (cE_i hk9 (hz (a + 9) (by omega) (by omega))).symm
  rw [up_ne hx9]
  rw [up_ne hx0]
  by_cases hx8 : x = (a + 8)
  · rw [hx8, up_eq]; exact (cE_i hk8 (hz (a + 8) (by omega) (by omega))).symm
  rw [up_ne hx8]
  rw [up_ne hx0]
  by_cases hx7 : x = (a + 7)
  · rw [hx7, up_eq]; exact (cE_i hk7 (hz (a + 7) (by omega) (by omega))).symm
  rw [up_ne hx7]
  rw [up_ne hx0]
  by_cases hx6 : x = (a + 6)
  · rw [hx6, up_eq]; exact (cE_i hk6 (hz (a + 6) (by omega) (by omega))).symm
  rw [up_ne hx6]
  rw [up_ne hx0]
  by_cases hx5 : x = (a + 5)
  · rw [hx5, up_eq]; exact (cE_i hk5 (hz (a + 5) (by omega) (by omega))).symm
  rw [up_ne hx5]
  rw [up_ne hx0]
  by_cases hx4 : x = (a + 4)
  · rw [hx4, up_eq]; exact (cE_i hk4 (hz (a + 4) (by omega) (by omega))).symm
  rw [up_ne hx4]
  rw [up_ne hx0]
  by_cases hx3 : x = (a + 3)
  · rw [hx3, up_eq]; exact (cE_i hk3 (hz (a + 3) (by omega) (by omega))).symm
  rw [up_ne hx3]
  rw [up_ne hx0]
  by_cases hx2 : x = (a + 2)
  · rw [hx2, up_eq]; exact (cE_i hk2 (hz (a + 2) (by omega) (by omega))).symm
  rw [up_ne hx2]
  rw [up_ne hx0]
  by_cases hx1 : x = (a + 1)
  · rw [hx1, up_eq]; exact (cE_i hk1 (hz (a + 1) (by omega) (by omega))).symm
  rw [up_ne hx1]
  exfalso; omega
