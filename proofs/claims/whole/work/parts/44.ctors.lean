/-! constructors, by program: words, decode rows, contracts -/
theorem ob_ok : Cond.instanceMethod Lib.objectInit ∈ TB_t ∧ Cond.code Lib.objectInit ⟨#[0xb1]⟩ 1 none ∈ TB_t := ⟨tb_in (qt_1 (List.mem_of_getElem? (i := 29) (by decide +kernel))) rfl, tb_in (qt_1 (List.mem_of_getElem? (i := 30) (by decide +kernel))) rfl⟩
abbrev K_X10_init : KT_k := (cX10_init, 1, RX10, 1)
theorem yn_X10 : Yn_ yX10_init K_X10_init := ⟨tb_in (qt_1 (List.mem_of_getElem? (i := 56) rfl)) rfl, tb_in (qt_1 (List.mem_of_getElem? (i := 4) (by decide +kernel))) rfl, by decide +kernel, by decide +kernel, by decide, rfl, tb_in (qt_1 (List.mem_of_getElem? (i := 55) (by decide +kernel))) rfl⟩
theorem d_X10_init_0 : decode cX10_init 0 = .ok (.aload_n 0, 1) := by decide +kernel
theorem d_X10_init_1 : decode cX10_init 1 = .ok (.invokespecial 3, 3) := by decide +kernel
theorem d_X10_init_4 : decode cX10_init 4 = .ok (.aload_n 0, 1) := by decide +kernel
theorem d_X10_init_5 : decode cX10_init 5 = .ok (.bipush 8, 2) := by decide +kernel
theorem d_X10_init_7 : decode cX10_init 7 = .ok (.newarray .int, 2) := by decide +kernel
theorem d_X10_init_9 : decode cX10_init 9 = .ok (.putfield 9, 3) := by decide +kernel
theorem d_X10_init_12 : decode cX10_init 12 = .ok (.return_, 1) := by decide +kernel
abbrev K_X7_init : KT_k := (cX7_init, 1, RX7, 1)
theorem yn_X7 : Yn_ yX7_init K_X7_init := ⟨tb_in (qt_1 (List.mem_of_getElem? (i := 139) rfl)) rfl, tb_in (qt_1 (List.mem_of_getElem? (i := 6) (by decide +kernel))) rfl, by decide +kernel, by decide +kernel, by decide, rfl, tb_in (qt_1 (List.mem_of_getElem? (i := 138) (by decide +kernel))) rfl⟩
theorem d_X7_init_0 : decode cX7_init 0 = .ok (.aload_n 0, 1) := by decide +kernel
theorem d_X7_init_1 : decode cX7_init 1 = .ok (.invokespecial 5, 3) := by decide +kernel
theorem d_X7_init_4 : decode cX7_init 4 = .ok (.return_, 1) := by decide +kernel
abbrev K_X8_init : KT_k := (cX8_init, 1, RX8, 1)
theorem yn_X8 : Yn_ yX8_init K_X8_init := ⟨tb_in (qt_1 (List.mem_of_getElem? (i := 165) rfl)) rfl, tb_in (qt_1 (List.mem_of_getElem? (i := 7) (by decide +kernel))) rfl, by decide +kernel, by decide +kernel, by decide, rfl, tb_in (qt_1 (List.mem_of_getElem? (i := 164) (by decide +kernel))) rfl⟩
theorem d_X8_init_0 : decode cX8_init 0 = .ok (.aload_n 0, 1) := by decide +kernel
theorem d_X8_init_1 : decode cX8_init 1 = .ok (.invokespecial 1, 3) := by decide +kernel
theorem d_X8_init_4 : decode cX8_init 4 = .ok (.return_, 1) := by decide +kernel
abbrev K_X1_init : KT_k := (cX1_init, 1, RX1, 2)
theorem yn_X1 : Yn_ yX1_init K_X1_init := ⟨tb_in (qt_1 (List.mem_of_getElem? (i := 50) rfl)) rfl, tb_in (qt_1 (List.mem_of_getElem? (i := 3) (by decide +kernel))) rfl, by decide +kernel, by decide +kernel, by decide, rfl, tb_in (qt_1 (List.mem_of_getElem? (i := 49) (by decide +kernel))) rfl⟩
theorem d_X1_init_0 : decode cX1_init 0 = .ok (.aload_n 0, 1) := by decide +kernel
theorem d_X1_init_1 : decode cX1_init 1 = .ok (.invokespecial 3, 3) := by decide +kernel
theorem d_X1_init_4 : decode cX1_init 4 = .ok (.aload_n 0, 1) := by decide +kernel
theorem d_X1_init_5 : decode cX1_init 5 = .ok (.new 9, 3) := by decide +kernel
theorem d_X1_init_8 : decode cX1_init 8 = .ok (.dup, 1) := by decide +kernel
theorem d_X1_init_9 : decode cX1_init 9 = .ok (.invokespecial 11, 3) := by decide +kernel
theorem d_X1_init_12 : decode cX1_init 12 = .ok (.putfield 12, 3) := by decide +kernel
theorem d_X1_init_15 : decode cX1_init 15 = .ok (.return_, 1) := by decide +kernel
abbrev K_X5_init : KT_k := (cX5_init, 1, RX5, 2)
theorem yn_X5 : Yn_ yX5_init K_X5_init := ⟨tb_in (qt_1 (List.mem_of_getElem? (i := 117) rfl)) rfl, tb_in (qt_1 (List.mem_of_getElem? (i := 5) (by decide +kernel))) rfl, by decide +kernel, by decide +kernel, by decide, rfl, tb_in (qt_1 (List.mem_of_getElem? (i := 116) (by decide +kernel))) rfl⟩
theorem d_X5_init_0 : decode cX5_init 0 = .ok (.aload_n 0, 1) := by decide +kernel
theorem d_X5_init_1 : decode cX5_init 1 = .ok (.invokespecial 3, 3) := by decide +kernel
theorem d_X5_init_4 : decode cX5_init 4 = .ok (.aload_n 0, 1) := by decide +kernel
theorem d_X5_init_5 : decode cX5_init 5 = .ok (.new 9, 3) := by decide +kernel
theorem d_X5_init_8 : decode cX5_init 8 = .ok (.dup, 1) := by decide +kernel
theorem d_X5_init_9 : decode cX5_init 9 = .ok (.invokespecial 11, 3) := by decide +kernel
theorem d_X5_init_12 : decode cX5_init 12 = .ok (.putfield 12, 3) := by decide +kernel
theorem d_X5_init_15 : decode cX5_init 15 = .ok (.aload_n 0, 1) := by decide +kernel
theorem d_X5_init_16 : decode cX5_init 16 = .ok (.new 9, 3) := by decide +kernel
theorem d_X5_init_19 : decode cX5_init 19 = .ok (.dup, 1) := by decide +kernel
theorem d_X5_init_20 : decode cX5_init 20 = .ok (.invokespecial 11, 3) := by decide +kernel
theorem d_X5_init_23 : decode cX5_init 23 = .ok (.putfield 18, 3) := by decide +kernel
theorem d_X5_init_26 : decode cX5_init 26 = .ok (.return_, 1) := by decide +kernel
abbrev K_X9_init : KT_k := (cX9_init, 1, RX9, 3)
theorem yn_X9 : Yn_ yX9_init K_X9_init := ⟨tb_in (qt_2 (List.mem_of_getElem? (i := 151) rfl)) rfl, tb_in (qt_1 (List.mem_of_getElem? (i := 12) (by decide +kernel))) rfl, by decide +kernel, by decide +kernel, by decide, rfl, tb_in (qt_2 (List.mem_of_getElem? (i := 150) (by decide +kernel))) rfl⟩
theorem d_X9_init_0 : decode cX9_init 0 = .ok (.aload_n 0, 1) := by decide +kernel
theorem d_X9_init_1 : decode cX9_init 1 = .ok (.invokespecial 3, 3) := by decide +kernel
theorem d_X9_init_4 : decode cX9_init 4 = .ok (.aload_n 0, 1) := by decide +kernel
theorem d_X9_init_5 : decode cX9_init 5 = .ok (.iconst 0, 1) := by decide +kernel
theorem d_X9_init_6 : decode cX9_init 6 = .ok (.putfield 11, 3) := by decide +kernel
theorem d_X9_init_9 : decode cX9_init 9 = .ok (.aload_n 0, 1) := by decide +kernel
theorem d_X9_init_10 : decode cX9_init 10 = .ok (.new 15, 3) := by decide +kernel
theorem d_X9_init_13 : decode cX9_init 13 = .ok (.dup, 1) := by decide +kernel
theorem d_X9_init_14 : decode cX9_init 14 = .ok (.invokespecial 17, 3) := by decide +kernel
theorem d_X9_init_17 : decode cX9_init 17 = .ok (.putfield 18, 3) := by decide +kernel
theorem d_X9_init_20 : decode cX9_init 20 = .ok (.aload_n 0, 1) := by decide +kernel
theorem d_X9_init_21 : decode cX9_init 21 = .ok (.bipush 80, 2) := by decide +kernel
theorem d_X9_init_23 : decode cX9_init 23 = .ok (.newarray .int, 2) := by decide +kernel
theorem d_X9_init_25 : decode cX9_init 25 = .ok (.putfield 22, 3) := by decide +kernel
theorem d_X9_init_28 : decode cX9_init 28 = .ok (.return_, 1) := by decide +kernel
abbrev K_X2_init : KT_k := (cX2_init, 1, RX2, 1)
theorem yn_X2 : Yn_ yX2_init K_X2_init := ⟨tb_in (qt_2 (List.mem_of_getElem? (i := 25) rfl)) rfl, tb_in (qt_1 (List.mem_of_getElem? (i := 8) (by decide +kernel))) rfl, by decide +kernel, by decide +kernel, by decide, rfl, tb_in (qt_2 (List.mem_of_getElem? (i := 24) (by decide +kernel))) rfl⟩
theorem d_X2_init_0 : decode cX2_init 0 = .ok (.aload_n 0, 1) := by decide +kernel
theorem d_X2_init_1 : decode cX2_init 1 = .ok (.invokespecial 3, 3) := by decide +kernel
theorem d_X2_init_4 : decode cX2_init 4 = .ok (.aload_n 0, 1) := by decide +kernel
theorem d_X2_init_5 : decode cX2_init 5 = .ok (.bipush 72, 2) := by decide +kernel
theorem d_X2_init_7 : decode cX2_init 7 = .ok (.newarray .int, 2) := by decide +kernel
theorem d_X2_init_9 : decode cX2_init 9 = .ok (.putfield 11, 3) := by decide +kernel
theorem d_X2_init_12 : decode cX2_init 12 = .ok (.aload_n 0, 1) := by decide +kernel
theorem d_X2_init_13 : decode cX2_init 13 = .ok (.bipush 9, 2) := by decide +kernel
theorem d_X2_init_15 : decode cX2_init 15 = .ok (.newarray .int, 2) := by decide +kernel
theorem d_X2_init_17 : decode cX2_init 17 = .ok (.putfield 15, 3) := by decide +kernel
theorem d_X2_init_20 : decode cX2_init 20 = .ok (.aload_n 0, 1) := by decide +kernel
theorem d_X2_init_21 : decode cX2_init 21 = .ok (.bipush 8, 2) := by decide +kernel
theorem d_X2_init_23 : decode cX2_init 23 = .ok (.newarray .int, 2) := by decide +kernel
theorem d_X2_init_25 : decode cX2_init 25 = .ok (.putfield 18, 3) := by decide +kernel
theorem d_X2_init_28 : decode cX2_init 28 = .ok (.aload_n 0, 1) := by decide +kernel
theorem d_X2_init_29 : decode cX2_init 29 = .ok (.sipush 1024, 3) := by decide +kernel
theorem d_X2_init_32 : decode cX2_init 32 = .ok (.newarray .int, 2) := by decide +kernel
theorem d_X2_init_34 : decode cX2_init 34 = .ok (.putfield 21, 3) := by decide +kernel
theorem d_X2_init_37 : decode cX2_init 37 = .ok (.aload_n 0, 1) := by decide +kernel
theorem d_X2_init_38 : decode cX2_init 38 = .ok (.sipush 1024, 3) := by decide +kernel
theorem d_X2_init_41 : decode cX2_init 41 = .ok (.newarray .int, 2) := by decide +kernel
theorem d_X2_init_43 : decode cX2_init 43 = .ok (.putfield 24, 3) := by decide +kernel
theorem d_X2_init_46 : decode cX2_init 46 = .ok (.return_, 1) := by decide +kernel
abbrev K_X3_init : KT_k := (cX3_init, 1, RX3, 1)
theorem yn_X3 : Yn_ yX3_init K_X3_init := ⟨tb_in (qt_2 (List.mem_of_getElem? (i := 69) rfl)) rfl, tb_in (qt_1 (List.mem_of_getElem? (i := 9) (by decide +kernel))) rfl, by decide +kernel, by decide +kernel, by decide, rfl, tb_in (qt_2 (List.mem_of_getElem? (i := 68) (by decide +kernel))) rfl⟩
theorem d_X3_init_0 : decode cX3_init 0 = .ok (.aload_n 0, 1) := by decide +kernel
theorem d_X3_init_1 : decode cX3_init 1 = .ok (.invokespecial 5, 3) := by decide +kernel
theorem d_X3_init_4 : decode cX3_init 4 = .ok (.aload_n 0, 1) := by decide +kernel
theorem d_X3_init_5 : decode cX3_init 5 = .ok (.bipush 80, 2) := by decide +kernel
theorem d_X3_init_7 : decode cX3_init 7 = .ok (.newarray .int, 2) := by decide +kernel
theorem d_X3_init_9 : decode cX3_init 9 = .ok (.putfield 11, 3) := by decide +kernel
theorem d_X3_init_12 : decode cX3_init 12 = .ok (.aload_n 0, 1) := by decide +kernel
theorem d_X3_init_13 : decode cX3_init 13 = .ok (.iconst 3, 1) := by decide +kernel
theorem d_X3_init_14 : decode cX3_init 14 = .ok (.newarray .int, 2) := by decide +kernel
theorem d_X3_init_16 : decode cX3_init 16 = .ok (.putfield 17, 3) := by decide +kernel
theorem d_X3_init_19 : decode cX3_init 19 = .ok (.aload_n 0, 1) := by decide +kernel
theorem d_X3_init_20 : decode cX3_init 20 = .ok (.bipush 10, 2) := by decide +kernel
theorem d_X3_init_22 : decode cX3_init 22 = .ok (.newarray .int, 2) := by decide +kernel
theorem d_X3_init_24 : decode cX3_init 24 = .ok (.putfield 20, 3) := by decide +kernel
theorem d_X3_init_27 : decode cX3_init 27 = .ok (.return_, 1) := by decide +kernel
abbrev K_X4_init : KT_k := (cX4_init, 1, RX4, 1)
theorem yn_X4 : Yn_ yX4_init K_X4_init := ⟨tb_in (qt_2 (List.mem_of_getElem? (i := 129) rfl)) rfl, tb_in (qt_1 (List.mem_of_getElem? (i := 11) (by decide +kernel))) rfl, by decide +kernel, by decide +kernel, by decide, rfl, tb_in (qt_2 (List.mem_of_getElem? (i := 128) (by decide +kernel))) rfl⟩
theorem d_X4_init_0 : decode cX4_init 0 = .ok (.aload_n 0, 1) := by decide +kernel
theorem d_X4_init_1 : decode cX4_init 1 = .ok (.invokespecial 3, 3) := by decide +kernel
theorem d_X4_init_4 : decode cX4_init 4 = .ok (.aload_n 0, 1) := by decide +kernel
theorem d_X4_init_5 : decode cX4_init 5 = .ok (.bipush 100, 2) := by decide +kernel
theorem d_X4_init_7 : decode cX4_init 7 = .ok (.newarray .int, 2) := by decide +kernel
theorem d_X4_init_9 : decode cX4_init 9 = .ok (.putfield 9, 3) := by decide +kernel
theorem d_X4_init_12 : decode cX4_init 12 = .ok (.aload_n 0, 1) := by decide +kernel
theorem d_X4_init_13 : decode cX4_init 13 = .ok (.bipush 10, 2) := by decide +kernel
theorem d_X4_init_15 : decode cX4_init 15 = .ok (.newarray .int, 2) := by decide +kernel
theorem d_X4_init_17 : decode cX4_init 17 = .ok (.putfield 15, 3) := by decide +kernel
theorem d_X4_init_20 : decode cX4_init 20 = .ok (.aload_n 0, 1) := by decide +kernel
theorem d_X4_init_21 : decode cX4_init 21 = .ok (.bipush 10, 2) := by decide +kernel
theorem d_X4_init_23 : decode cX4_init 23 = .ok (.newarray .int, 2) := by decide +kernel
theorem d_X4_init_25 : decode cX4_init 25 = .ok (.putfield 18, 3) := by decide +kernel
theorem d_X4_init_28 : decode cX4_init 28 = .ok (.return_, 1) := by decide +kernel
abbrev K_X6_init : KT_k := (cX6_init, 3, RX6, 3)
theorem yn_X6 : Yn_ yX6_init K_X6_init := ⟨tb_in (qt_2 (List.mem_of_getElem? (i := 94) rfl)) rfl, tb_in (qt_1 (List.mem_of_getElem? (i := 10) (by decide +kernel))) rfl, by decide +kernel, by decide +kernel, by decide, rfl, tb_in (qt_2 (List.mem_of_getElem? (i := 93) (by decide +kernel))) rfl⟩
theorem d_X6_init_0 : decode cX6_init 0 = .ok (.aload_n 0, 1) := by decide +kernel
theorem d_X6_init_1 : decode cX6_init 1 = .ok (.invokespecial 3, 3) := by decide +kernel
theorem d_X6_init_4 : decode cX6_init 4 = .ok (.aload_n 0, 1) := by decide +kernel
theorem d_X6_init_5 : decode cX6_init 5 = .ok (.bipush 16, 2) := by decide +kernel
theorem d_X6_init_7 : decode cX6_init 7 = .ok (.newarray .int, 2) := by decide +kernel
theorem d_X6_init_9 : decode cX6_init 9 = .ok (.putfield 9, 3) := by decide +kernel
theorem d_X6_init_12 : decode cX6_init 12 = .ok (.aload_n 0, 1) := by decide +kernel
theorem d_X6_init_13 : decode cX6_init 13 = .ok (.iconst 4, 1) := by decide +kernel
theorem d_X6_init_14 : decode cX6_init 14 = .ok (.newarray .int, 2) := by decide +kernel
theorem d_X6_init_16 : decode cX6_init 16 = .ok (.putfield 15, 3) := by decide +kernel
theorem d_X6_init_19 : decode cX6_init 19 = .ok (.iconst 0, 1) := by decide +kernel
theorem d_X6_init_20 : decode cX6_init 20 = .ok (.istore_n 1, 1) := by decide +kernel
theorem d_X6_init_21 : decode cX6_init 21 = .ok (.iconst 0, 1) := by decide +kernel
theorem d_X6_init_22 : decode cX6_init 22 = .ok (.istore_n 2, 1) := by decide +kernel
theorem d_X6_init_23 : decode cX6_init 23 = .ok (.iload_n 2, 1) := by decide +kernel
theorem d_X6_init_24 : decode cX6_init 24 = .ok (.sipush 256, 3) := by decide +kernel
theorem d_X6_init_27 : decode cX6_init 27 = .ok (.if_icmp .ge 34, 3) := by decide +kernel
theorem d_X6_init_30 : decode cX6_init 30 = .ok (.aload_n 0, 1) := by decide +kernel
theorem d_X6_init_31 : decode cX6_init 31 = .ok (.iload_n 2, 1) := by decide +kernel
theorem d_X6_init_32 : decode cX6_init 32 = .ok (.iconst 4, 1) := by decide +kernel
theorem d_X6_init_33 : decode cX6_init 33 = .ok (.invokevirtual 18, 3) := by decide +kernel
theorem d_X6_init_36 : decode cX6_init 36 = .ok (.aload_n 0, 1) := by decide +kernel
theorem d_X6_init_37 : decode cX6_init 37 = .ok (.getfield 15, 3) := by decide +kernel
theorem d_X6_init_40 : decode cX6_init 40 = .ok (.iconst 4, 1) := by decide +kernel
theorem d_X6_init_41 : decode cX6_init 41 = .ok (.invokestatic 22, 3) := by decide +kernel
theorem d_X6_init_44 : decode cX6_init 44 = .ok (.ifCond .eq 11, 3) := by decide +kernel
theorem d_X6_init_47 : decode cX6_init 47 = .ok (.aload_n 0, 1) := by decide +kernel
theorem d_X6_init_48 : decode cX6_init 48 = .ok (.iload_n 1, 1) := by decide +kernel
theorem d_X6_init_49 : decode cX6_init 49 = .ok (.invokevirtual 26, 3) := by decide +kernel
theorem d_X6_init_52 : decode cX6_init 52 = .ok (.iinc 1 1, 3) := by decide +kernel
theorem d_X6_init_55 : decode cX6_init 55 = .ok (.iinc 2 1, 3) := by decide +kernel
theorem d_X6_init_58 : decode cX6_init 58 = .ok (.goto (-35), 3) := by decide +kernel
theorem d_X6_init_61 : decode cX6_init 61 = .ok (.return_, 1) := by decide +kernel
abbrev K_X12_init : KT_k := (cX12_init, 1, RX12, 1)
theorem yn_X12 : Yn_ yX12_init K_X12_init := ⟨tb_in (qt_5 (List.mem_of_getElem? (i := 114) rfl)) rfl, tb_in (qt_1 (List.mem_of_getElem? (i := 13) (by decide +kernel))) rfl, by decide +kernel, by decide +kernel, by decide, rfl, tb_in (qt_5 (List.mem_of_getElem? (i := 113) (by decide +kernel))) rfl⟩
theorem d_X12_init_0 : decode cX12_init 0 = .ok (.aload_n 0, 1) := by decide +kernel
theorem d_X12_init_1 : decode cX12_init 1 = .ok (.invokespecial 1, 3) := by decide +kernel
theorem d_X12_init_4 : decode cX12_init 4 = .ok (.aload_n 0, 1) := by decide +kernel
theorem d_X12_init_5 : decode cX12_init 5 = .ok (.sipush 1067, 3) := by decide +kernel
theorem d_X12_init_8 : decode cX12_init 8 = .ok (.newarray .int, 2) := by decide +kernel
theorem d_X12_init_10 : decode cX12_init 10 = .ok (.putfield 9, 3) := by decide +kernel
theorem d_X12_init_13 : decode cX12_init 13 = .ok (.aload_n 0, 1) := by decide +kernel
theorem d_X12_init_14 : decode cX12_init 14 = .ok (.sipush 1067, 3) := by decide +kernel
theorem d_X12_init_17 : decode cX12_init 17 = .ok (.newarray .int, 2) := by decide +kernel
theorem d_X12_init_19 : decode cX12_init 19 = .ok (.putfield 13, 3) := by decide +kernel
theorem d_X12_init_22 : decode cX12_init 22 = .ok (.aload_n 0, 1) := by decide +kernel
theorem d_X12_init_23 : decode cX12_init 23 = .ok (.bipush 8, 2) := by decide +kernel
theorem d_X12_init_25 : decode cX12_init 25 = .ok (.newarray .int, 2) := by decide +kernel
theorem d_X12_init_27 : decode cX12_init 27 = .ok (.putfield 16, 3) := by decide +kernel
theorem d_X12_init_30 : decode cX12_init 30 = .ok (.aload_n 0, 1) := by decide +kernel
theorem d_X12_init_31 : decode cX12_init 31 = .ok (.bipush 8, 2) := by decide +kernel
theorem d_X12_init_33 : decode cX12_init 33 = .ok (.newarray .int, 2) := by decide +kernel
theorem d_X12_init_35 : decode cX12_init 35 = .ok (.putfield 19, 3) := by decide +kernel
theorem d_X12_init_38 : decode cX12_init 38 = .ok (.aload_n 0, 1) := by decide +kernel
theorem d_X12_init_39 : decode cX12_init 39 = .ok (.bipush 8, 2) := by decide +kernel
theorem d_X12_init_41 : decode cX12_init 41 = .ok (.newarray .int, 2) := by decide +kernel
theorem d_X12_init_43 : decode cX12_init 43 = .ok (.putfield 22, 3) := by decide +kernel
theorem d_X12_init_46 : decode cX12_init 46 = .ok (.aload_n 0, 1) := by decide +kernel
theorem d_X12_init_47 : decode cX12_init 47 = .ok (.sipush 640, 3) := by decide +kernel
theorem d_X12_init_50 : decode cX12_init 50 = .ok (.newarray .int, 2) := by decide +kernel
theorem d_X12_init_52 : decode cX12_init 52 = .ok (.putfield 25, 3) := by decide +kernel
theorem d_X12_init_55 : decode cX12_init 55 = .ok (.aload_n 0, 1) := by decide +kernel
theorem d_X12_init_56 : decode cX12_init 56 = .ok (.bipush 8, 2) := by decide +kernel
theorem d_X12_init_58 : decode cX12_init 58 = .ok (.newarray .int, 2) := by decide +kernel
theorem d_X12_init_60 : decode cX12_init 60 = .ok (.putfield 28, 3) := by decide +kernel
theorem d_X12_init_63 : decode cX12_init 63 = .ok (.aload_n 0, 1) := by decide +kernel
theorem d_X12_init_64 : decode cX12_init 64 = .ok (.bipush 8, 2) := by decide +kernel
theorem d_X12_init_66 : decode cX12_init 66 = .ok (.newarray .int, 2) := by decide +kernel
theorem d_X12_init_68 : decode cX12_init 68 = .ok (.putfield 31, 3) := by decide +kernel
theorem d_X12_init_71 : decode cX12_init 71 = .ok (.aload_n 0, 1) := by decide +kernel
theorem d_X12_init_72 : decode cX12_init 72 = .ok (.bipush 9, 2) := by decide +kernel
theorem d_X12_init_74 : decode cX12_init 74 = .ok (.newarray .int, 2) := by decide +kernel
theorem d_X12_init_76 : decode cX12_init 76 = .ok (.putfield 34, 3) := by decide +kernel
theorem d_X12_init_79 : decode cX12_init 79 = .ok (.aload_n 0, 1) := by decide +kernel
theorem d_X12_init_80 : decode cX12_init 80 = .ok (.bipush 9, 2) := by decide +kernel
theorem d_X12_init_82 : decode cX12_init 82 = .ok (.newarray .int, 2) := by decide +kernel
theorem d_X12_init_84 : decode cX12_init 84 = .ok (.putfield 37, 3) := by decide +kernel
theorem d_X12_init_87 : decode cX12_init 87 = .ok (.aload_n 0, 1) := by decide +kernel
theorem d_X12_init_88 : decode cX12_init 88 = .ok (.bipush 10, 2) := by decide +kernel
theorem d_X12_init_90 : decode cX12_init 90 = .ok (.newarray .int, 2) := by decide +kernel
theorem d_X12_init_92 : decode cX12_init 92 = .ok (.putfield 40, 3) := by decide +kernel
theorem d_X12_init_95 : decode cX12_init 95 = .ok (.aload_n 0, 1) := by decide +kernel
theorem d_X12_init_96 : decode cX12_init 96 = .ok (.bipush 8, 2) := by decide +kernel
theorem d_X12_init_98 : decode cX12_init 98 = .ok (.newarray .int, 2) := by decide +kernel
theorem d_X12_init_100 : decode cX12_init 100 = .ok (.putfield 43, 3) := by decide +kernel
theorem d_X12_init_103 : decode cX12_init 103 = .ok (.aload_n 0, 1) := by decide +kernel
theorem d_X12_init_104 : decode cX12_init 104 = .ok (.bipush 80, 2) := by decide +kernel
theorem d_X12_init_106 : decode cX12_init 106 = .ok (.newarray .int, 2) := by decide +kernel
theorem d_X12_init_108 : decode cX12_init 108 = .ok (.putfield 46, 3) := by decide +kernel
theorem d_X12_init_111 : decode cX12_init 111 = .ok (.aload_n 0, 1) := by decide +kernel
theorem d_X12_init_112 : decode cX12_init 112 = .ok (.bipush 80, 2) := by decide +kernel
theorem d_X12_init_114 : decode cX12_init 114 = .ok (.newarray .int, 2) := by decide +kernel
theorem d_X12_init_116 : decode cX12_init 116 = .ok (.putfield 49, 3) := by decide +kernel
theorem d_X12_init_119 : decode cX12_init 119 = .ok (.aload_n 0, 1) := by decide +kernel
theorem d_X12_init_120 : decode cX12_init 120 = .ok (.bipush 24, 2) := by decide +kernel
theorem d_X12_init_122 : decode cX12_init 122 = .ok (.newarray .boolean, 2) := by decide +kernel
theorem d_X12_init_124 : decode cX12_init 124 = .ok (.putfield 52, 3) := by decide +kernel
theorem d_X12_init_127 : decode cX12_init 127 = .ok (.aload_n 0, 1) := by decide +kernel
theorem d_X12_init_128 : decode cX12_init 128 = .ok (.bipush 10, 2) := by decide +kernel
theorem d_X12_init_130 : decode cX12_init 130 = .ok (.newarray .int, 2) := by decide +kernel
theorem d_X12_init_132 : decode cX12_init 132 = .ok (.putfield 56, 3) := by decide +kernel
theorem d_X12_init_135 : decode cX12_init 135 = .ok (.aload_n 0, 1) := by decide +kernel
theorem d_X12_init_136 : decode cX12_init 136 = .ok (.bipush 100, 2) := by decide +kernel
theorem d_X12_init_138 : decode cX12_init 138 = .ok (.newarray .int, 2) := by decide +kernel
theorem d_X12_init_140 : decode cX12_init 140 = .ok (.putfield 59, 3) := by decide +kernel
theorem d_X12_init_143 : decode cX12_init 143 = .ok (.aload_n 0, 1) := by decide +kernel
theorem d_X12_init_144 : decode cX12_init 144 = .ok (.bipush 10, 2) := by decide +kernel
theorem d_X12_init_146 : decode cX12_init 146 = .ok (.newarray .int, 2) := by decide +kernel
theorem d_X12_init_148 : decode cX12_init 148 = .ok (.putfield 62, 3) := by decide +kernel
theorem d_X12_init_151 : decode cX12_init 151 = .ok (.return_, 1) := by decide +kernel
abbrev K_X0_init : KT_k := (cX0_init, 2, RX0, 3)
theorem yn_X0 : Yn_ yX0_init K_X0_init := ⟨tb_in (qt_1 (List.mem_of_getElem? (i := 35) rfl)) rfl, tb_in (qt_1 (List.mem_of_getElem? (i := 2) (by decide +kernel))) rfl, by decide +kernel, by decide +kernel, by decide, rfl, tb_in (qt_1 (List.mem_of_getElem? (i := 34) (by decide +kernel))) rfl⟩
theorem d_X0_init_0 : decode cX0_init 0 = .ok (.aload_n 0, 1) := by decide +kernel
theorem d_X0_init_1 : decode cX0_init 1 = .ok (.invokespecial 3, 3) := by decide +kernel
theorem d_X0_init_4 : decode cX0_init 4 = .ok (.aload_n 0, 1) := by decide +kernel
theorem d_X0_init_5 : decode cX0_init 5 = .ok (.bipush 10, 2) := by decide +kernel
theorem d_X0_init_7 : decode cX0_init 7 = .ok (.newarray .int, 2) := by decide +kernel
theorem d_X0_init_9 : decode cX0_init 9 = .ok (.putfield 9, 3) := by decide +kernel
theorem d_X0_init_12 : decode cX0_init 12 = .ok (.aload_n 0, 1) := by decide +kernel
theorem d_X0_init_13 : decode cX0_init 13 = .ok (.bipush 8, 2) := by decide +kernel
theorem d_X0_init_15 : decode cX0_init 15 = .ok (.newarray .int, 2) := by decide +kernel
theorem d_X0_init_17 : decode cX0_init 17 = .ok (.putfield 15, 3) := by decide +kernel
theorem d_X0_init_20 : decode cX0_init 20 = .ok (.aload_n 0, 1) := by decide +kernel
theorem d_X0_init_21 : decode cX0_init 21 = .ok (.bipush 8, 2) := by decide +kernel
theorem d_X0_init_23 : decode cX0_init 23 = .ok (.newarray .int, 2) := by decide +kernel
theorem d_X0_init_25 : decode cX0_init 25 = .ok (.putfield 18, 3) := by decide +kernel
theorem d_X0_init_28 : decode cX0_init 28 = .ok (.aload_n 0, 1) := by decide +kernel
theorem d_X0_init_29 : decode cX0_init 29 = .ok (.bipush 40, 2) := by decide +kernel
theorem d_X0_init_31 : decode cX0_init 31 = .ok (.anewarray 21, 3) := by decide +kernel
theorem d_X0_init_34 : decode cX0_init 34 = .ok (.putfield 23, 3) := by decide +kernel
theorem d_X0_init_37 : decode cX0_init 37 = .ok (.aload_n 0, 1) := by decide +kernel
theorem d_X0_init_38 : decode cX0_init 38 = .ok (.bipush 16, 2) := by decide +kernel
theorem d_X0_init_40 : decode cX0_init 40 = .ok (.anewarray 27, 3) := by decide +kernel
theorem d_X0_init_43 : decode cX0_init 43 = .ok (.putfield 29, 3) := by decide +kernel
theorem d_X0_init_46 : decode cX0_init 46 = .ok (.aload_n 0, 1) := by decide +kernel
theorem d_X0_init_47 : decode cX0_init 47 = .ok (.bipush 8, 2) := by decide +kernel
theorem d_X0_init_49 : decode cX0_init 49 = .ok (.anewarray 33, 3) := by decide +kernel
theorem d_X0_init_52 : decode cX0_init 52 = .ok (.putfield 35, 3) := by decide +kernel
theorem d_X0_init_55 : decode cX0_init 55 = .ok (.aload_n 0, 1) := by decide +kernel
theorem d_X0_init_56 : decode cX0_init 56 = .ok (.bipush 20, 2) := by decide +kernel
theorem d_X0_init_58 : decode cX0_init 58 = .ok (.anewarray 39, 3) := by decide +kernel
theorem d_X0_init_61 : decode cX0_init 61 = .ok (.putfield 41, 3) := by decide +kernel
theorem d_X0_init_64 : decode cX0_init 64 = .ok (.aload_n 0, 1) := by decide +kernel
theorem d_X0_init_65 : decode cX0_init 65 = .ok (.bipush 10, 2) := by decide +kernel
theorem d_X0_init_67 : decode cX0_init 67 = .ok (.anewarray 45, 3) := by decide +kernel
theorem d_X0_init_70 : decode cX0_init 70 = .ok (.putfield 47, 3) := by decide +kernel
theorem d_X0_init_73 : decode cX0_init 73 = .ok (.aload_n 0, 1) := by decide +kernel
theorem d_X0_init_74 : decode cX0_init 74 = .ok (.bipush 10, 2) := by decide +kernel
theorem d_X0_init_76 : decode cX0_init 76 = .ok (.newarray .int, 2) := by decide +kernel
theorem d_X0_init_78 : decode cX0_init 78 = .ok (.putfield 51, 3) := by decide +kernel
theorem d_X0_init_81 : decode cX0_init 81 = .ok (.iconst 0, 1) := by decide +kernel
theorem d_X0_init_82 : decode cX0_init 82 = .ok (.istore_n 1, 1) := by decide +kernel
theorem d_X0_init_83 : decode cX0_init 83 = .ok (.iload_n 1, 1) := by decide +kernel
theorem d_X0_init_84 : decode cX0_init 84 = .ok (.bipush 40, 2) := by decide +kernel
theorem d_X0_init_86 : decode cX0_init 86 = .ok (.if_icmp .ge 22, 3) := by decide +kernel
theorem d_X0_init_89 : decode cX0_init 89 = .ok (.aload_n 0, 1) := by decide +kernel
theorem d_X0_init_90 : decode cX0_init 90 = .ok (.getfield 23, 3) := by decide +kernel
theorem d_X0_init_93 : decode cX0_init 93 = .ok (.iload_n 1, 1) := by decide +kernel
theorem d_X0_init_94 : decode cX0_init 94 = .ok (.new 21, 3) := by decide +kernel
theorem d_X0_init_97 : decode cX0_init 97 = .ok (.dup, 1) := by decide +kernel
theorem d_X0_init_98 : decode cX0_init 98 = .ok (.invokespecial 54, 3) := by decide +kernel
theorem d_X0_init_101 : decode cX0_init 101 = .ok (.aastore, 1) := by decide +kernel
theorem d_X0_init_102 : decode cX0_init 102 = .ok (.iinc 1 1, 3) := by decide +kernel
theorem d_X0_init_105 : decode cX0_init 105 = .ok (.goto (-22), 3) := by decide +kernel
theorem d_X0_init_108 : decode cX0_init 108 = .ok (.iconst 0, 1) := by decide +kernel
theorem d_X0_init_109 : decode cX0_init 109 = .ok (.istore_n 1, 1) := by decide +kernel
theorem d_X0_init_110 : decode cX0_init 110 = .ok (.iload_n 1, 1) := by decide +kernel
theorem d_X0_init_111 : decode cX0_init 111 = .ok (.bipush 16, 2) := by decide +kernel
theorem d_X0_init_113 : decode cX0_init 113 = .ok (.if_icmp .ge 22, 3) := by decide +kernel
theorem d_X0_init_116 : decode cX0_init 116 = .ok (.aload_n 0, 1) := by decide +kernel
theorem d_X0_init_117 : decode cX0_init 117 = .ok (.getfield 29, 3) := by decide +kernel
theorem d_X0_init_120 : decode cX0_init 120 = .ok (.iload_n 1, 1) := by decide +kernel
theorem d_X0_init_121 : decode cX0_init 121 = .ok (.new 27, 3) := by decide +kernel
theorem d_X0_init_124 : decode cX0_init 124 = .ok (.dup, 1) := by decide +kernel
theorem d_X0_init_125 : decode cX0_init 125 = .ok (.invokespecial 55, 3) := by decide +kernel
theorem d_X0_init_128 : decode cX0_init 128 = .ok (.aastore, 1) := by decide +kernel
theorem d_X0_init_129 : decode cX0_init 129 = .ok (.iinc 1 1, 3) := by decide +kernel
theorem d_X0_init_132 : decode cX0_init 132 = .ok (.goto (-22), 3) := by decide +kernel
theorem d_X0_init_135 : decode cX0_init 135 = .ok (.iconst 0, 1) := by decide +kernel
theorem d_X0_init_136 : decode cX0_init 136 = .ok (.istore_n 1, 1) := by decide +kernel
theorem d_X0_init_137 : decode cX0_init 137 = .ok (.iload_n 1, 1) := by decide +kernel
theorem d_X0_init_138 : decode cX0_init 138 = .ok (.bipush 8, 2) := by decide +kernel
theorem d_X0_init_140 : decode cX0_init 140 = .ok (.if_icmp .ge 22, 3) := by decide +kernel
theorem d_X0_init_143 : decode cX0_init 143 = .ok (.aload_n 0, 1) := by decide +kernel
theorem d_X0_init_144 : decode cX0_init 144 = .ok (.getfield 35, 3) := by decide +kernel
theorem d_X0_init_147 : decode cX0_init 147 = .ok (.iload_n 1, 1) := by decide +kernel
theorem d_X0_init_148 : decode cX0_init 148 = .ok (.new 33, 3) := by decide +kernel
theorem d_X0_init_151 : decode cX0_init 151 = .ok (.dup, 1) := by decide +kernel
theorem d_X0_init_152 : decode cX0_init 152 = .ok (.invokespecial 56, 3) := by decide +kernel
theorem d_X0_init_155 : decode cX0_init 155 = .ok (.aastore, 1) := by decide +kernel
theorem d_X0_init_156 : decode cX0_init 156 = .ok (.iinc 1 1, 3) := by decide +kernel
theorem d_X0_init_159 : decode cX0_init 159 = .ok (.goto (-22), 3) := by decide +kernel
theorem d_X0_init_162 : decode cX0_init 162 = .ok (.iconst 0, 1) := by decide +kernel
theorem d_X0_init_163 : decode cX0_init 163 = .ok (.istore_n 1, 1) := by decide +kernel
theorem d_X0_init_164 : decode cX0_init 164 = .ok (.iload_n 1, 1) := by decide +kernel
theorem d_X0_init_165 : decode cX0_init 165 = .ok (.bipush 20, 2) := by decide +kernel
theorem d_X0_init_167 : decode cX0_init 167 = .ok (.if_icmp .ge 22, 3) := by decide +kernel
theorem d_X0_init_170 : decode cX0_init 170 = .ok (.aload_n 0, 1) := by decide +kernel
theorem d_X0_init_171 : decode cX0_init 171 = .ok (.getfield 41, 3) := by decide +kernel
theorem d_X0_init_174 : decode cX0_init 174 = .ok (.iload_n 1, 1) := by decide +kernel
theorem d_X0_init_175 : decode cX0_init 175 = .ok (.new 39, 3) := by decide +kernel
theorem d_X0_init_178 : decode cX0_init 178 = .ok (.dup, 1) := by decide +kernel
theorem d_X0_init_179 : decode cX0_init 179 = .ok (.invokespecial 57, 3) := by decide +kernel
theorem d_X0_init_182 : decode cX0_init 182 = .ok (.aastore, 1) := by decide +kernel
theorem d_X0_init_183 : decode cX0_init 183 = .ok (.iinc 1 1, 3) := by decide +kernel
theorem d_X0_init_186 : decode cX0_init 186 = .ok (.goto (-22), 3) := by decide +kernel
theorem d_X0_init_189 : decode cX0_init 189 = .ok (.iconst 0, 1) := by decide +kernel
theorem d_X0_init_190 : decode cX0_init 190 = .ok (.istore_n 1, 1) := by decide +kernel
theorem d_X0_init_191 : decode cX0_init 191 = .ok (.iload_n 1, 1) := by decide +kernel
theorem d_X0_init_192 : decode cX0_init 192 = .ok (.bipush 10, 2) := by decide +kernel
theorem d_X0_init_194 : decode cX0_init 194 = .ok (.if_icmp .ge 22, 3) := by decide +kernel
theorem d_X0_init_197 : decode cX0_init 197 = .ok (.aload_n 0, 1) := by decide +kernel
theorem d_X0_init_198 : decode cX0_init 198 = .ok (.getfield 47, 3) := by decide +kernel
theorem d_X0_init_201 : decode cX0_init 201 = .ok (.iload_n 1, 1) := by decide +kernel
theorem d_X0_init_202 : decode cX0_init 202 = .ok (.new 45, 3) := by decide +kernel
theorem d_X0_init_205 : decode cX0_init 205 = .ok (.dup, 1) := by decide +kernel
theorem d_X0_init_206 : decode cX0_init 206 = .ok (.invokespecial 58, 3) := by decide +kernel
theorem d_X0_init_209 : decode cX0_init 209 = .ok (.aastore, 1) := by decide +kernel
theorem d_X0_init_210 : decode cX0_init 210 = .ok (.iinc 1 1, 3) := by decide +kernel
theorem d_X0_init_213 : decode cX0_init 213 = .ok (.goto (-22), 3) := by decide +kernel
theorem d_X0_init_216 : decode cX0_init 216 = .ok (.return_, 1) := by decide +kernel
abbrev K_X11_init : KT_k := (cX11_init, 2, RX11, 4)
theorem yn_X11 : Yn_ yX11_init K_X11_init := ⟨tb_in (qt_1 (List.mem_of_getElem? (i := 27) rfl)) rfl, tb_in (qt_1 (List.mem_of_getElem? (i := 1) (by decide +kernel))) rfl, by decide +kernel, by decide +kernel, by decide, rfl, tb_in (qt_1 (List.mem_of_getElem? (i := 26) (by decide +kernel))) rfl⟩
theorem d_X11_init_0 : decode cX11_init 0 = .ok (.aload_n 0, 1) := by decide +kernel
theorem d_X11_init_1 : decode cX11_init 1 = .ok (.invokespecial 1, 3) := by decide +kernel
theorem d_X11_init_4 : decode cX11_init 4 = .ok (.aload_n 0, 1) := by decide +kernel
theorem d_X11_init_5 : decode cX11_init 5 = .ok (.new 7, 3) := by decide +kernel
theorem d_X11_init_8 : decode cX11_init 8 = .ok (.dup, 1) := by decide +kernel
theorem d_X11_init_9 : decode cX11_init 9 = .ok (.invokespecial 9, 3) := by decide +kernel
theorem d_X11_init_12 : decode cX11_init 12 = .ok (.putfield 10, 3) := by decide +kernel
theorem d_X11_init_15 : decode cX11_init 15 = .ok (.aload_n 0, 1) := by decide +kernel
theorem d_X11_init_16 : decode cX11_init 16 = .ok (.new 7, 3) := by decide +kernel
theorem d_X11_init_19 : decode cX11_init 19 = .ok (.dup, 1) := by decide +kernel
theorem d_X11_init_20 : decode cX11_init 20 = .ok (.invokespecial 9, 3) := by decide +kernel
theorem d_X11_init_23 : decode cX11_init 23 = .ok (.putfield 16, 3) := by decide +kernel
theorem d_X11_init_26 : decode cX11_init 26 = .ok (.aload_n 0, 1) := by decide +kernel
theorem d_X11_init_27 : decode cX11_init 27 = .ok (.bipush 8, 2) := by decide +kernel
theorem d_X11_init_29 : decode cX11_init 29 = .ok (.anewarray 19, 3) := by decide +kernel
theorem d_X11_init_32 : decode cX11_init 32 = .ok (.putfield 21, 3) := by decide +kernel
theorem d_X11_init_35 : decode cX11_init 35 = .ok (.aload_n 0, 1) := by decide +kernel
theorem d_X11_init_36 : decode cX11_init 36 = .ok (.new 25, 3) := by decide +kernel
theorem d_X11_init_39 : decode cX11_init 39 = .ok (.dup, 1) := by decide +kernel
theorem d_X11_init_40 : decode cX11_init 40 = .ok (.invokespecial 27, 3) := by decide +kernel
theorem d_X11_init_43 : decode cX11_init 43 = .ok (.putfield 28, 3) := by decide +kernel
theorem d_X11_init_46 : decode cX11_init 46 = .ok (.aload_n 0, 1) := by decide +kernel
theorem d_X11_init_47 : decode cX11_init 47 = .ok (.new 32, 3) := by decide +kernel
theorem d_X11_init_50 : decode cX11_init 50 = .ok (.dup, 1) := by decide +kernel
theorem d_X11_init_51 : decode cX11_init 51 = .ok (.invokespecial 34, 3) := by decide +kernel
theorem d_X11_init_54 : decode cX11_init 54 = .ok (.putfield 35, 3) := by decide +kernel
theorem d_X11_init_57 : decode cX11_init 57 = .ok (.aload_n 0, 1) := by decide +kernel
theorem d_X11_init_58 : decode cX11_init 58 = .ok (.new 39, 3) := by decide +kernel
theorem d_X11_init_61 : decode cX11_init 61 = .ok (.dup, 1) := by decide +kernel
theorem d_X11_init_62 : decode cX11_init 62 = .ok (.invokespecial 41, 3) := by decide +kernel
theorem d_X11_init_65 : decode cX11_init 65 = .ok (.putfield 42, 3) := by decide +kernel
theorem d_X11_init_68 : decode cX11_init 68 = .ok (.aload_n 0, 1) := by decide +kernel
theorem d_X11_init_69 : decode cX11_init 69 = .ok (.new 46, 3) := by decide +kernel
theorem d_X11_init_72 : decode cX11_init 72 = .ok (.dup, 1) := by decide +kernel
theorem d_X11_init_73 : decode cX11_init 73 = .ok (.invokespecial 48, 3) := by decide +kernel
theorem d_X11_init_76 : decode cX11_init 76 = .ok (.putfield 49, 3) := by decide +kernel
theorem d_X11_init_79 : decode cX11_init 79 = .ok (.aload_n 0, 1) := by decide +kernel
theorem d_X11_init_80 : decode cX11_init 80 = .ok (.new 53, 3) := by decide +kernel
theorem d_X11_init_83 : decode cX11_init 83 = .ok (.dup, 1) := by decide +kernel
theorem d_X11_init_84 : decode cX11_init 84 = .ok (.invokespecial 55, 3) := by decide +kernel
theorem d_X11_init_87 : decode cX11_init 87 = .ok (.putfield 56, 3) := by decide +kernel
theorem d_X11_init_90 : decode cX11_init 90 = .ok (.iconst 0, 1) := by decide +kernel
theorem d_X11_init_91 : decode cX11_init 91 = .ok (.istore_n 1, 1) := by decide +kernel
theorem d_X11_init_92 : decode cX11_init 92 = .ok (.iload_n 1, 1) := by decide +kernel
theorem d_X11_init_93 : decode cX11_init 93 = .ok (.bipush 8, 2) := by decide +kernel
theorem d_X11_init_95 : decode cX11_init 95 = .ok (.if_icmp .ge 22, 3) := by decide +kernel
theorem d_X11_init_98 : decode cX11_init 98 = .ok (.aload_n 0, 1) := by decide +kernel
theorem d_X11_init_99 : decode cX11_init 99 = .ok (.getfield 21, 3) := by decide +kernel
theorem d_X11_init_102 : decode cX11_init 102 = .ok (.iload_n 1, 1) := by decide +kernel
theorem d_X11_init_103 : decode cX11_init 103 = .ok (.new 19, 3) := by decide +kernel
theorem d_X11_init_106 : decode cX11_init 106 = .ok (.dup, 1) := by decide +kernel
theorem d_X11_init_107 : decode cX11_init 107 = .ok (.invokespecial 60, 3) := by decide +kernel
theorem d_X11_init_110 : decode cX11_init 110 = .ok (.aastore, 1) := by decide +kernel
theorem d_X11_init_111 : decode cX11_init 111 = .ok (.iinc 1 1, 3) := by decide +kernel
theorem d_X11_init_114 : decode cX11_init 114 = .ok (.goto (-22), 3) := by decide +kernel
theorem d_X11_init_117 : decode cX11_init 117 = .ok (.return_, 1) := by decide +kernel
theorem ii_0 : Cond.instantiable (vN_ 0) (nf_c 0) ∈ TB_t ∧ Cond.initialized (vN_ 0) ∈ TB_t := ⟨tb_in (qt_1 (List.mem_of_getElem? (i := 32) (by decide +kernel))) rfl, tb_in (qt_1 (List.mem_of_getElem? (i := 2) (by decide +kernel))) rfl⟩
theorem ii_1 : Cond.instantiable (vN_ 1) (nf_c 1) ∈ TB_t ∧ Cond.initialized (vN_ 1) ∈ TB_t := ⟨tb_in (qt_1 (List.mem_of_getElem? (i := 47) (by decide +kernel))) rfl, tb_in (qt_1 (List.mem_of_getElem? (i := 3) (by decide +kernel))) rfl⟩
theorem ii_2 : Cond.instantiable (vN_ 2) (nf_c 2) ∈ TB_t ∧ Cond.initialized (vN_ 2) ∈ TB_t := ⟨tb_in (qt_2 (List.mem_of_getElem? (i := 22) (by decide +kernel))) rfl, tb_in (qt_1 (List.mem_of_getElem? (i := 8) (by decide +kernel))) rfl⟩
theorem ii_3 : Cond.instantiable (vN_ 3) (nf_c 3) ∈ TB_t ∧ Cond.initialized (vN_ 3) ∈ TB_t := ⟨tb_in (qt_2 (List.mem_of_getElem? (i := 66) (by decide +kernel))) rfl, tb_in (qt_1 (List.mem_of_getElem? (i := 9) (by decide +kernel))) rfl⟩
theorem ii_4 : Cond.instantiable (vN_ 4) (nf_c 4) ∈ TB_t ∧ Cond.initialized (vN_ 4) ∈ TB_t := ⟨tb_in (qt_2 (List.mem_of_getElem? (i := 126) (by decide +kernel))) rfl, tb_in (qt_1 (List.mem_of_getElem? (i := 11) (by decide +kernel))) rfl⟩
theorem ii_5 : Cond.instantiable (vN_ 5) (nf_c 5) ∈ TB_t ∧ Cond.initialized (vN_ 5) ∈ TB_t := ⟨tb_in (qt_1 (List.mem_of_getElem? (i := 114) (by decide +kernel))) rfl, tb_in (qt_1 (List.mem_of_getElem? (i := 5) (by decide +kernel))) rfl⟩
theorem ii_6 : Cond.instantiable (vN_ 6) (nf_c 6) ∈ TB_t ∧ Cond.initialized (vN_ 6) ∈ TB_t := ⟨tb_in (qt_2 (List.mem_of_getElem? (i := 91) (by decide +kernel))) rfl, tb_in (qt_1 (List.mem_of_getElem? (i := 10) (by decide +kernel))) rfl⟩
theorem ii_7 : Cond.instantiable (vN_ 7) (nf_c 7) ∈ TB_t ∧ Cond.initialized (vN_ 7) ∈ TB_t := ⟨tb_in (qt_1 (List.mem_of_getElem? (i := 136) (by decide +kernel))) rfl, tb_in (qt_1 (List.mem_of_getElem? (i := 6) (by decide +kernel))) rfl⟩
theorem ii_8 : Cond.instantiable (vN_ 8) (nf_c 8) ∈ TB_t ∧ Cond.initialized (vN_ 8) ∈ TB_t := ⟨tb_in (qt_1 (List.mem_of_getElem? (i := 162) (by decide +kernel))) rfl, tb_in (qt_1 (List.mem_of_getElem? (i := 7) (by decide +kernel))) rfl⟩
theorem ii_9 : Cond.instantiable (vN_ 9) (nf_c 9) ∈ TB_t ∧ Cond.initialized (vN_ 9) ∈ TB_t := ⟨tb_in (qt_2 (List.mem_of_getElem? (i := 148) (by decide +kernel))) rfl, tb_in (qt_1 (List.mem_of_getElem? (i := 12) (by decide +kernel))) rfl⟩
theorem ii_10 : Cond.instantiable (vN_ 10) (nf_c 10) ∈ TB_t ∧ Cond.initialized (vN_ 10) ∈ TB_t := ⟨tb_in (qt_1 (List.mem_of_getElem? (i := 53) (by decide +kernel))) rfl, tb_in (qt_1 (List.mem_of_getElem? (i := 4) (by decide +kernel))) rfl⟩
theorem ii_11 : Cond.instantiable (vN_ 11) (nf_c 11) ∈ TB_t ∧ Cond.initialized (vN_ 11) ∈ TB_t := ⟨tb_in (qt_1 (List.mem_of_getElem? (i := 24) (by decide +kernel))) rfl, tb_in (qt_1 (List.mem_of_getElem? (i := 1) (by decide +kernel))) rfl⟩
theorem ii_12 : Cond.instantiable (vN_ 12) (nf_c 12) ∈ TB_t ∧ Cond.initialized (vN_ 12) ∈ TB_t := ⟨tb_in (qt_5 (List.mem_of_getElem? (i := 111) (by decide +kernel))) rfl, tb_in (qt_1 (List.mem_of_getElem? (i := 13) (by decide +kernel))) rfl⟩
theorem fr_len {ci : Nat} : (fresh_ ci).length = nf_c ci := by simp [fresh_]
theorem fr_0 : fresh_ 0 = [.null, .null, .null, .null, .int 0, .null, .int 0, .int 0, .null, .int 0, .null, .int 0, .null, .null, .int 0] := rfl
theorem fr_1 : fresh_ 1 = [.null, .int 0, .int 0, .int 0, .int 0, .int 0, .int 0] := rfl
theorem fr_2 : fresh_ 2 = [.null, .null, .null, .int 0, .int 0, .int 0, .null, .null, .int 0, .int 0] := rfl
theorem fr_3 : fresh_ 3 = [.null, .int 0, .null, .int 0, .null] := rfl
theorem fr_4 : fresh_ 4 = [.null, .null, .int 0, .null] := rfl
theorem fr_6 : fresh_ 6 = [.null, .null, .int 0, .int 0] := rfl
theorem fr_7 : fresh_ 7 = [.int 0, .int 0, .int 0, .int 0, .int 0] := rfl
theorem fr_8 : fresh_ 8 = [.int 0, .int 0, .int 0] := rfl
theorem fr_9 : fresh_ 9 = [.int 0, .null, .int 0, .int 0, .null] := rfl
theorem fr_10 : fresh_ 10 = [.null, .int 0] := rfl
theorem fr_11 : fresh_ 11 = [.null, .null, .int 0, .null, .null, .null, .null, .null, .null] := rfl
theorem fr_12 : fresh_ 12 = [.null, .null, .null, .null, .null, .null, .null, .null, .int 0, .int 0, .int 0, .null, .null, .null, .int 0, .int 0, .int 0, .null, .null, .null, .int 0, .int 0, .int 0, .null, .int 0, .int 0, .null, .null, .null, .int 0, .int 0, .int 0, .int 0] := rfl
theorem ia_int : Cond.arrayClass .int ∈ TB_t := tb_in (qt_1 (List.mem_of_getElem? (i := 79) (by decide +kernel))) rfl
theorem ia_boo : Cond.arrayClass .boolean ∈ TB_t := tb_in (qt_5 (List.mem_of_getElem? (i := 216) (by decide +kernel))) rfl
theorem iob_X10_3 : Cond.methodLink RX10 3 Lib.objectInit ∈ TB_t := tb_in (qt_1 (List.mem_of_getElem? (i := 57) (by decide +kernel))) rfl
theorem ifw_X10_9 : FW_ RX10 9 10 0 := ⟨by decide, by decide, tb_in (qt_1 (List.mem_of_getElem? (i := 58) (by decide +kernel))) rfl⟩
theorem iob_X7_5 : Cond.methodLink RX7 5 Lib.objectInit ∈ TB_t := tb_in (qt_1 (List.mem_of_getElem? (i := 140) (by decide +kernel))) rfl
theorem iob_X8_1 : Cond.methodLink RX8 1 Lib.objectInit ∈ TB_t := tb_in (qt_1 (List.mem_of_getElem? (i := 166) (by decide +kernel))) rfl
theorem iob_X1_3 : Cond.methodLink RX1 3 Lib.objectInit ∈ TB_t := tb_in (qt_1 (List.mem_of_getElem? (i := 51) (by decide +kernel))) rfl
theorem icl_X1_9 : Cond.classLink RX1 9 (vN_ 10) ∈ TB_t := tb_in (qt_1 (List.mem_of_getElem? (i := 52) (by decide +kernel))) rfl
theorem im2_X1_11 : L2_ RX1 11 yX10_init "TongueBook" := List.mem_filter.mpr ⟨qt_1 (List.mem_of_getElem? (i := 54) (by decide +kernel)), rfl⟩
theorem ifw_X1_12 : FW_ RX1 12 1 0 := ⟨by decide, by decide, tb_in (qt_1 (List.mem_of_getElem? (i := 80) (by decide +kernel))) rfl⟩
theorem iob_X5_3 : Cond.methodLink RX5 3 Lib.objectInit ∈ TB_t := tb_in (qt_1 (List.mem_of_getElem? (i := 118) (by decide +kernel))) rfl
theorem icl_X5_9 : Cond.classLink RX5 9 (vN_ 10) ∈ TB_t := tb_in (qt_1 (List.mem_of_getElem? (i := 119) (by decide +kernel))) rfl
theorem im2_X5_11 : L2_ RX5 11 yX10_init "TongueBook" := List.mem_filter.mpr ⟨qt_1 (List.mem_of_getElem? (i := 120) (by decide +kernel)), rfl⟩
theorem ifw_X5_12 : FW_ RX5 12 5 2 := ⟨by decide, by decide, tb_in (qt_1 (List.mem_of_getElem? (i := 123) (by decide +kernel))) rfl⟩
theorem ifw_X5_18 : FW_ RX5 18 5 3 := ⟨by decide, by decide, tb_in (qt_1 (List.mem_of_getElem? (i := 124) (by decide +kernel))) rfl⟩
theorem iob_X9_3 : Cond.methodLink RX9 3 Lib.objectInit ∈ TB_t := tb_in (qt_2 (List.mem_of_getElem? (i := 152) (by decide +kernel))) rfl
theorem ifw_X9_11 : FW_ RX9 11 9 0 := ⟨by decide, by decide, tb_in (qt_2 (List.mem_of_getElem? (i := 155) (by decide +kernel))) rfl⟩
theorem icl_X9_15 : Cond.classLink RX9 15 (vN_ 5) ∈ TB_t := tb_in (qt_2 (List.mem_of_getElem? (i := 153) (by decide +kernel))) rfl
theorem im2_X9_17 : L2_ RX9 17 yX5_init "TongueBook" := List.mem_filter.mpr ⟨qt_2 (List.mem_of_getElem? (i := 154) (by decide +kernel)), rfl⟩
theorem ifw_X9_18 : FW_ RX9 18 9 1 := ⟨by decide, by decide, tb_in (qt_2 (List.mem_of_getElem? (i := 157) (by decide +kernel))) rfl⟩
theorem ifw_X9_22 : FW_ RX9 22 9 4 := ⟨by decide, by decide, tb_in (qt_2 (List.mem_of_getElem? (i := 166) (by decide +kernel))) rfl⟩
theorem iob_X2_3 : Cond.methodLink RX2 3 Lib.objectInit ∈ TB_t := tb_in (qt_2 (List.mem_of_getElem? (i := 26) (by decide +kernel))) rfl
theorem ifw_X2_11 : FW_ RX2 11 2 0 := ⟨by decide, by decide, tb_in (qt_2 (List.mem_of_getElem? (i := 27) (by decide +kernel))) rfl⟩
theorem ifw_X2_15 : FW_ RX2 15 2 1 := ⟨by decide, by decide, tb_in (qt_2 (List.mem_of_getElem? (i := 28) (by decide +kernel))) rfl⟩
theorem ifw_X2_18 : FW_ RX2 18 2 2 := ⟨by decide, by decide, tb_in (qt_2 (List.mem_of_getElem? (i := 30) (by decide +kernel))) rfl⟩
theorem ifw_X2_21 : FW_ RX2 21 2 6 := ⟨by decide, by decide, tb_in (qt_2 (List.mem_of_getElem? (i := 38) (by decide +kernel))) rfl⟩
theorem ifw_X2_24 : FW_ RX2 24 2 7 := ⟨by decide, by decide, tb_in (qt_2 (List.mem_of_getElem? (i := 39) (by decide +kernel))) rfl⟩
theorem iob_X3_5 : Cond.methodLink RX3 5 Lib.objectInit ∈ TB_t := tb_in (qt_2 (List.mem_of_getElem? (i := 70) (by decide +kernel))) rfl
theorem ifw_X3_11 : FW_ RX3 11 3 0 := ⟨by decide, by decide, tb_in (qt_2 (List.mem_of_getElem? (i := 71) (by decide +kernel))) rfl⟩
theorem ifw_X3_17 : FW_ RX3 17 3 2 := ⟨by decide, by decide, tb_in (qt_2 (List.mem_of_getElem? (i := 74) (by decide +kernel))) rfl⟩
theorem ifw_X3_20 : FW_ RX3 20 3 4 := ⟨by decide, by decide, tb_in (qt_2 (List.mem_of_getElem? (i := 78) (by decide +kernel))) rfl⟩
theorem iob_X4_3 : Cond.methodLink RX4 3 Lib.objectInit ∈ TB_t := tb_in (qt_2 (List.mem_of_getElem? (i := 130) (by decide +kernel))) rfl
theorem ifw_X4_9 : FW_ RX4 9 4 0 := ⟨by decide, by decide, tb_in (qt_2 (List.mem_of_getElem? (i := 131) (by decide +kernel))) rfl⟩
theorem ifw_X4_15 : FW_ RX4 15 4 1 := ⟨by decide, by decide, tb_in (qt_2 (List.mem_of_getElem? (i := 132) (by decide +kernel))) rfl⟩
theorem ifw_X4_18 : FW_ RX4 18 4 3 := ⟨by decide, by decide, tb_in (qt_2 (List.mem_of_getElem? (i := 136) (by decide +kernel))) rfl⟩
set_option maxHeartbeats 4000000 in
set_option maxRecDepth 100000 in
theorem in_X10 {l : Launch} {B : Nat} {D : va_G} {ca : Nat → ClassId} {M : Mem_m} {a : Nat} (hk0 : (kd0_ a).1 = 10) (hk1 : kd0_ (a + 1) = (20, 8)) (hz : ∀ x, a ≤ x → x < (a + 2) → M x = fun _ => 0) : IN_ l yX10_init K_X10_init 1 8 (G0_ B D ca) M a (a + 2) 10 := by
  refine in_of (by decide +kernel) rfl rfl (by decide) (fun X hl C hcells hslots => ?_)
  subst hl
  refine I_aload_n (j := 0) C d_X10_init_0 rfl rfl ?_
  refine I_obj C iob_X10_3 ob_ok (by decide) (Nat.le_of_ble_eq_true rfl) d_X10_init_1 ?_
  refine I_aload_n (j := 0) C d_X10_init_4 rfl rfl ?_
  refine I_bipush (v := 8) C d_X10_init_5 rfl ?_
  refine I_newarr (aty := .int) (ty := .int) (t := 0) (N := 8) (v0 := 0) C rfl ia_int rfl (fun _ _ h => h) rfl (by decide) (by decide) (by omega) (by omega) d_X10_init_7 ?_
  refine I_putF (a := a) (b := (a + 1)) (ci := 10) (fs := fresh_ 10) (ty := tyX10 0) C (by decide) ck_10 ((up_ne (by omega)).trans <| rfl) ⟨by omega, by omega⟩ ifw_X10_9 rfl rfl (tyX10_ok 0 (by decide)) rfl rfl (by simp only [List.length_set, fr_len]; decide) d_X10_init_9 ?_
  refine I_vret C d_X10_init_12 (by omega) (by omega) (fun x h1 h2 => ?_)
  by_cases hx0 : x = a
  · rw [hx0, up_eq]; exact (cE_o hk0 (by decide) (by rw [hz a (by omega) (by omega), fr_10]; rfl)).symm
  rw [up_ne hx0]
  by_cases hx1 : x = (a + 1)
  · rw [hx1, up_eq]; exact (cE_i hk1 (hz (a + 1) (by omega) (by omega))).symm
  rw [up_ne hx1]
  exfalso; omega
set_option maxHeartbeats 4000000 in
set_option maxRecDepth 100000 in
theorem in_X7 {l : Launch} {B : Nat} {D : va_G} {ca : Nat → ClassId} {M : Mem_m} {a : Nat} (hk0 : (kd0_ a).1 = 7) (hz : ∀ x, a ≤ x → x < (a + 1) → M x = fun _ => 0) : IN_ l yX7_init K_X7_init 0 0 (G0_ B D ca) M a (a + 1) 7 := by
  refine in_of (by decide +kernel) rfl rfl (by decide) (fun X hl C hcells hslots => ?_)
  subst hl
  refine I_aload_n (j := 0) C d_X7_init_0 rfl rfl ?_
  refine I_obj C iob_X7_5 ob_ok (by decide) (Nat.le_of_ble_eq_true rfl) d_X7_init_1 ?_
  refine I_vret C d_X7_init_4 (by omega) (by omega) (fun x h1 h2 => ?_)
  have hx0 : x = a := by omega
  rw [hx0]
  exact (cE_o hk0 (by decide) (by rw [hz a (by omega) (by omega), fr_7]; rfl)).symm
set_option maxHeartbeats 4000000 in
set_option maxRecDepth 100000 in
theorem in_X8 {l : Launch} {B : Nat} {D : va_G} {ca : Nat → ClassId} {M : Mem_m} {a : Nat} (hk0 : (kd0_ a).1 = 8) (hz : ∀ x, a ≤ x → x < (a + 1) → M x = fun _ => 0) : IN_ l yX8_init K_X8_init 0 0 (G0_ B D ca) M a (a + 1) 8 := by
  refine in_of (by decide +kernel) rfl rfl (by decide) (fun X hl C hcells hslots => ?_)
  subst hl
  refine I_aload_n (j := 0) C d_X8_init_0 rfl rfl ?_
  refine I_obj C iob_X8_1 ob_ok (by decide) (Nat.le_of_ble_eq_true rfl) d_X8_init_1 ?_
  refine I_vret C d_X8_init_4 (by omega) (by omega) (fun x h1 h2 => ?_)
  have hx0 : x = a := by omega
  rw [hx0]
  exact (cE_o hk0 (by decide) (by rw [hz a (by omega) (by omega), fr_8]; rfl)).symm
set_option maxHeartbeats 4000000 in
set_option maxRecDepth 100000 in
theorem in_X1 {l : Launch} {B : Nat} {D : va_G} {ca : Nat → ClassId} {M : Mem_m} {a : Nat} (hk0 : (kd0_ a).1 = 1) (hk1 : (kd0_ (a + 1)).1 = 10) (hk2 : kd0_ (a + 2) = (20, 8)) (hz : ∀ x, a ≤ x → x < (a + 3) → M x = fun _ => 0) : IN_ l yX1_init K_X1_init 2 10 (G0_ B D ca) M a (a + 3) 1 := by
  refine in_of (by decide +kernel) rfl rfl (by decide) (fun X hl C hcells hslots => ?_)
  subst hl
  refine I_aload_n (j := 0) C d_X1_init_0 rfl rfl ?_
  refine I_obj C iob_X1_3 ob_ok (by decide) (Nat.le_of_ble_eq_true rfl) d_X1_init_1 ?_
  refine I_aload_n (j := 0) C d_X1_init_4 rfl rfl ?_
  refine I_new (ci := 10) (nf := 2) rfl C (by decide) ck_10 icl_X1_9 ii_10.1 ii_10.2 (by omega) (by omega) d_X1_init_5 ?_
  refine I_dup C d_X1_init_8 rfl ?_
  refine I_callN (b := (a + 1)) (n' := (a + 3)) C yn_X10 im2_X1_11 (by decide) (in_X10 (a := (a + 1)) hk1 hk2 (fun x h1 h2 => hz x (by omega) (by omega))) (by omega) rfl (up_eq) (by omega) (by omega) (Nat.le_of_ble_eq_true rfl) d_X1_init_9 ?_
  refine I_putF (a := a) (b := (a + 1)) (ci := 1) (fs := fresh_ 1) (ty := tyX1 0) C (by decide) ck_1 ((cl_ne (by omega)).trans <| (up_ne (by omega)).trans <| rfl) ⟨by omega, by omega⟩ ifw_X1_12 rfl rfl (tyX1_ok 0 (by decide)) rfl rfl (by simp only [List.length_set, fr_len]; decide) d_X1_init_12 ?_
  refine I_vret C d_X1_init_15 (by omega) (by omega) (fun x h1 h2 => ?_)
  by_cases hx0 : x = a
  · rw [hx0, up_eq]; exact (cE_o hk0 (by decide) (by rw [hz a (by omega) (by omega), fr_1]; rfl)).symm
  rw [up_ne hx0]
  by_cases hy1 : (a + 1) ≤ x
  · exact cl_in hy1
  rw [cl_ne hy1]
  rw [up_ne (by omega)]
  exfalso; omega
set_option maxHeartbeats 4000000 in
set_option maxRecDepth 100000 in
theorem in_X5 {l : Launch} {B : Nat} {D : va_G} {ca : Nat → ClassId} {M : Mem_m} {a : Nat} (hk0 : (kd0_ a).1 = 5) (hk1 : (kd0_ (a + 1)).1 = 10) (hk2 : kd0_ (a + 2) = (20, 8)) (hk3 : (kd0_ (a + 3)).1 = 10) (hk4 : kd0_ (a + 4) = (20, 8)) (hz : ∀ x, a ≤ x → x < (a + 5) → M x = fun _ => 0) : IN_ l yX5_init K_X5_init 4 20 (G0_ B D ca) M a (a + 5) 5 := by
  refine in_of (by decide +kernel) rfl rfl (by decide) (fun X hl C hcells hslots => ?_)
  subst hl
  refine I_aload_n (j := 0) C d_X5_init_0 rfl rfl ?_
  refine I_obj C iob_X5_3 ob_ok (by decide) (Nat.le_of_ble_eq_true rfl) d_X5_init_1 ?_
  refine I_aload_n (j := 0) C d_X5_init_4 rfl rfl ?_
  refine I_new (ci := 10) (nf := 2) rfl C (by decide) ck_10 icl_X5_9 ii_10.1 ii_10.2 (by omega) (by omega) d_X5_init_5 ?_
  refine I_dup C d_X5_init_8 rfl ?_
  refine I_callN (b := (a + 1)) (n' := (a + 3)) C yn_X10 im2_X5_11 (by decide) (in_X10 (a := (a + 1)) hk1 hk2 (fun x h1 h2 => hz x (by omega) (by omega))) (by omega) rfl (up_eq) (by omega) (by omega) (Nat.le_of_ble_eq_true rfl) d_X5_init_9 ?_
  refine I_putF (a := a) (b := (a + 1)) (ci := 5) (fs := fresh_ 5) (ty := tyX5 2) C (by decide) ck_5 ((cl_ne (by omega)).trans <| (up_ne (by omega)).trans <| rfl) ⟨by omega, by omega⟩ ifw_X5_12 rfl rfl (tyX5_ok 2 (by decide)) rfl rfl (by simp only [List.length_set, fr_len]; decide) d_X5_init_12 ?_
  refine I_aload_n (j := 0) C d_X5_init_15 rfl rfl ?_
  refine I_new (ci := 10) (nf := 2) rfl C (by decide) ck_10 icl_X5_9 ii_10.1 ii_10.2 (by omega) (by omega) d_X5_init_16 ?_
  refine I_dup C d_X5_init_19 rfl ?_
  refine I_callN (b := (a + 3)) (n' := (a + 5)) C yn_X10 im2_X5_11 (by decide) (in_X10 (a := (a + 3)) hk3 hk4 (fun x h1 h2 => hz x (by omega) (by omega))) (by omega) rfl (up_eq) (by omega) (by omega) (Nat.le_of_ble_eq_true rfl) d_X5_init_20 ?_
  refine I_putF (a := a) (b := (a + 3)) (ci := 5) (fs := (fresh_ 5).set 2 (.ref (B + (a + 1)))) (ty := tyX5 3) C (by decide) ck_5 ((cl_ne (by omega)).trans <| (up_ne (by omega)).trans <| up_eq) ⟨by omega, by omega⟩ ifw_X5_18 rfl rfl (tyX5_ok 3 (by decide)) rfl rfl (by simp only [List.length_set, fr_len]; decide) d_X5_init_23 ?_
  refine I_vret C d_X5_init_26 (by omega) (by omega) (fun x h1 h2 => ?_)
  by_cases hx0 : x = a
  · rw [hx0, up_eq]; exact (cE_o hk0 (by decide) (by rw [hz a (by omega) (by omega), fr_5]; rfl)).symm
  rw [up_ne hx0]
  by_cases hy3 : (a + 3) ≤ x
  · exact cl_in hy3
  rw [cl_ne hy3]
  rw [up_ne (by omega)]
  rw [up_ne hx0]
  by_cases hy1 : (a + 1) ≤ x
  · exact cl_in hy1
  rw [cl_ne hy1]
  rw [up_ne (by omega)]
  exfalso; omega
set_option maxHeartbeats 4000000 in
set_option maxRecDepth 100000 in
theorem in_X9 {l : Launch} {B : Nat} {D : va_G} {ca : Nat → ClassId} {M : Mem_m} {a : Nat} (hk0 : (kd0_ a).1 = 9) (hk1 : (kd0_ (a + 1)).1 = 5) (hk2 : (kd0_ (a + 2)).1 = 10) (hk3 : kd0_ (a + 3) = (20, 8)) (hk4 : (kd0_ (a + 4)).1 = 10) (hk5 : kd0_ (a + 5) = (20, 8)) (hk6 : kd0_ (a + 6) = (20, 80)) (hz : ∀ x, a ≤ x → x < (a + 7) → M x = fun _ => 0) : IN_ l yX9_init K_X9_init 6 104 (G0_ B D ca) M a (a + 7) 9 := by
  refine in_of (by decide +kernel) rfl rfl (by decide) (fun X hl C hcells hslots => ?_)
  subst hl
  refine I_aload_n (j := 0) C d_X9_init_0 rfl rfl ?_
  refine I_obj C iob_X9_3 ob_ok (by decide) (Nat.le_of_ble_eq_true rfl) d_X9_init_1 ?_
  refine I_aload_n (j := 0) C d_X9_init_4 rfl rfl ?_
  refine I_iconst C d_X9_init_5 ?_
  refine I_putI (a := a) (ci := 9) (fs := fresh_ 9) (x := 0) C (by decide) ck_9 (rfl) ⟨by omega, by omega⟩ ifw_X9_11 ⟨rfl, by decide +kernel⟩ (by simp only [List.length_set, fr_len]; decide) d_X9_init_6 ?_
  refine I_aload_n (j := 0) C d_X9_init_9 rfl rfl ?_
  refine I_new (ci := 5) (nf := 4) rfl C (by decide) ck_5 icl_X9_15 ii_5.1 ii_5.2 (by omega) (by omega) d_X9_init_10 ?_
  refine I_dup C d_X9_init_13 rfl ?_
  refine I_callN (b := (a + 1)) (n' := (a + 6)) C yn_X5 im2_X9_17 (by decide) (in_X5 (a := (a + 1)) hk1 hk2 hk3 hk4 hk5 (fun x h1 h2 => hz x (by omega) (by omega))) (by omega) rfl (up_eq) (by omega) (by omega) (Nat.le_of_ble_eq_true rfl) d_X9_init_14 ?_
  refine I_putF (a := a) (b := (a + 1)) (ci := 9) (fs := (fresh_ 9).set 0 (iv_i 0)) (ty := tyX9 1) C (by decide) ck_9 ((cl_ne (by omega)).trans <| (up_ne (by omega)).trans <| up_eq) ⟨by omega, by omega⟩ ifw_X9_18 rfl rfl (tyX9_ok 1 (by decide)) rfl rfl (by simp only [List.length_set, fr_len]; decide) d_X9_init_17 ?_
  refine I_aload_n (j := 0) C d_X9_init_20 rfl rfl ?_
  refine I_bipush (v := 80) C d_X9_init_21 rfl ?_
  refine I_newarr (aty := .int) (ty := .int) (t := 0) (N := 80) (v0 := 0) C rfl ia_int rfl (fun _ _ h => h) rfl (by decide) (by decide) (by omega) (by omega) d_X9_init_23 ?_
  refine I_putF (a := a) (b := (a + 6)) (ci := 9) (fs := ((fresh_ 9).set 0 (iv_i 0)).set 1 (.ref (B + (a + 1)))) (ty := tyX9 4) C (by decide) ck_9 ((up_ne (by omega)).trans <| up_eq) ⟨by omega, by omega⟩ ifw_X9_22 rfl rfl (tyX9_ok 4 (by decide)) rfl rfl (by simp only [List.length_set, fr_len]; decide) d_X9_init_25 ?_
  refine I_vret C d_X9_init_28 (by omega) (by omega) (fun x h1 h2 => ?_)
  by_cases hx0 : x = a
  · rw [hx0, up_eq]; exact (cE_o hk0 (by decide) (by rw [hz a (by omega) (by omega), fr_9]; rfl)).symm
  rw [up_ne hx0]
  by_cases hx6 : x = (a + 6)
  · rw [hx6, up_eq]; exact (cE_i hk6 (hz (a + 6) (by omega) (by omega))).symm
  rw [up_ne hx6]
  rw [up_ne hx0]
  by_cases hy1 : (a + 1) ≤ x
  · exact cl_in hy1
  rw [cl_ne hy1]
  rw [up_ne (by omega)]
  rw [up_ne hx0]
  exfalso; omega
set_option maxHeartbeats 4000000 in
set_option maxRecDepth 100000 in
theorem in_X2 {l : Launch} {B : Nat} {D : va_G} {ca : Nat → ClassId} {M : Mem_m} {a : Nat} (hk0 : (kd0_ a).1 = 2) (hk1 : kd0_ (a + 1) = (20, 72)) (hk2 : kd0_ (a + 2) = (20, 9)) (hk3 : kd0_ (a + 3) = (20, 8)) (hk4 : kd0_ (a + 4) = (20, 1024)) (hk5 : kd0_ (a + 5) = (20, 1024)) (hz : ∀ x, a ≤ x → x < (a + 6) → M x = fun _ => 0) : IN_ l yX2_init K_X2_init 5 2137 (G0_ B D ca) M a (a + 6) 2 := by
  refine in_of (by decide +kernel) rfl rfl (by decide) (fun X hl C hcells hslots => ?_)
  subst hl
  refine I_aload_n (j := 0) C d_X2_init_0 rfl rfl ?_
  refine I_obj C iob_X2_3 ob_ok (by decide) (Nat.le_of_ble_eq_true rfl) d_X2_init_1 ?_
  refine I_aload_n (j := 0) C d_X2_init_4 rfl rfl ?_
  refine I_bipush (v := 72) C d_X2_init_5 rfl ?_
  refine I_newarr (aty := .int) (ty := .int) (t := 0) (N := 72) (v0 := 0) C rfl ia_int rfl (fun _ _ h => h) rfl (by decide) (by decide) (by omega) (by omega) d_X2_init_7 ?_
  refine I_putF (a := a) (b := (a + 1)) (ci := 2) (fs := fresh_ 2) (ty := tyX2 0) C (by decide) ck_2 ((up_ne (by omega)).trans <| rfl) ⟨by omega, by omega⟩ ifw_X2_11 rfl rfl (tyX2_ok 0 (by decide)) rfl rfl (by simp only [List.length_set, fr_len]; decide) d_X2_init_9 ?_
  refine I_aload_n (j := 0) C d_X2_init_12 rfl rfl ?_
  refine I_bipush (v := 9) C d_X2_init_13 rfl ?_
  refine I_newarr (aty := .int) (ty := .int) (t := 0) (N := 9) (v0 := 0) C rfl ia_int rfl (fun _ _ h => h) rfl (by decide) (by decide) (by omega) (by omega) d_X2_init_15 ?_
  refine I_putF (a := a) (b := (a + 2)) (ci := 2) (fs := (fresh_ 2).set 0 (.ref (B + (a + 1)))) (ty := tyX2 1) C (by decide) ck_2 ((up_ne (by omega)).trans <| up_eq) ⟨by omega, by omega⟩ ifw_X2_15 rfl rfl (tyX2_ok 1 (by decide)) rfl rfl (by simp only [List.length_set, fr_len]; decide) d_X2_init_17 ?_
  refine I_aload_n (j := 0) C d_X2_init_20 rfl rfl ?_
  refine I_bipush (v := 8) C d_X2_init_21 rfl ?_
  refine I_newarr (aty := .int) (ty := .int) (t := 0) (N := 8) (v0 := 0) C rfl ia_int rfl (fun _ _ h => h) rfl (by decide) (by decide) (by omega) (by omega) d_X2_init_23 ?_
  refine I_putF (a := a) (b := (a + 3)) (ci := 2) (fs := ((fresh_ 2).set 0 (.ref (B + (a + 1)))).set 1 (.ref (B + (a + 2)))) (ty := tyX2 2) C (by decide) ck_2 ((up_ne (by omega)).trans <| up_eq) ⟨by omega, by omega⟩ ifw_X2_18 rfl rfl (tyX2_ok 2 (by decide)) rfl rfl (by simp only [List.length_set, fr_len]; decide) d_X2_init_25 ?_
  refine I_aload_n (j := 0) C d_X2_init_28 rfl rfl ?_
  refine I_sipush (v := 1024) C d_X2_init_29 rfl ?_
  refine I_newarr (aty := .int) (ty := .int) (t := 0) (N := 1024) (v0 := 0) C rfl ia_int rfl (fun _ _ h => h) rfl (by decide) (by decide) (by omega) (by omega) d_X2_init_32 ?_
  refine I_putF (a := a) (b := (a + 4)) (ci := 2) (fs := (((fresh_ 2).set 0 (.ref (B + (a + 1)))).set 1 (.ref (B + (a + 2)))).set 2 (.ref (B + (a + 3)))) (ty := tyX2 6) C (by decide) ck_2 ((up_ne (by omega)).trans <| up_eq) ⟨by omega, by omega⟩ ifw_X2_21 rfl rfl (tyX2_ok 6 (by decide)) rfl rfl (by simp only [List.length_set, fr_len]; decide) d_X2_init_34 ?_
  refine I_aload_n (j := 0) C d_X2_init_37 rfl rfl ?_
  refine I_sipush (v := 1024) C d_X2_init_38 rfl ?_
  refine I_newarr (aty := .int) (ty := .int) (t := 0) (N := 1024) (v0 := 0) C rfl ia_int rfl (fun _ _ h => h) rfl (by decide) (by decide) (by omega) (by omega) d_X2_init_41 ?_
  refine I_putF (a := a) (b := (a + 5)) (ci := 2) (fs := ((((fresh_ 2).set 0 (.ref (B + (a + 1)))).set 1 (.ref (B + (a + 2)))).set 2 (.ref (B + (a + 3)))).set 6 (.ref (B + (a + 4)))) (ty := tyX2 7) C (by decide) ck_2 ((up_ne (by omega)).trans <| up_eq) ⟨by omega, by omega⟩ ifw_X2_24 rfl rfl (tyX2_ok 7 (by decide)) rfl rfl (by simp only [List.length_set, fr_len]; decide) d_X2_init_43 ?_
  refine I_vret C d_X2_init_46 (by omega) (by omega) (fun x h1 h2 => ?_)
  by_cases hx0 : x = a
  · rw [hx0, up_eq]; exact (cE_o hk0 (by decide) (by rw [hz a (by omega) (by omega), fr_2]; rfl)).symm
  rw [up_ne hx0]
  by_cases hx5 : x = (a + 5)
  · rw [hx5, up_eq]; exact (cE_i hk5 (hz (a + 5) (by omega) (by omega))).symm
  rw [up_ne hx5]
  rw [up_ne hx0]
  by_cases hx4 : x = (a + 4)
  · rw [hx4, up_eq]; exact (cE_i hk4 (hz (a + 4) (by omega) (by omega))).symm
  rw [up_ne hx4]
  rw [up_ne hx0]
  by_cases hx3 : x = (a + 3)
  · rw [hx3, up_eq]; exact (cE_i hk3 (hz (a + 3) (by omega) (by omega))).symm
  rw [up_ne hx3]
  rw [up_ne hx0]
  by_cases hx2 : x = (a + 2)
  · rw [hx2, up_eq]; exact (cE_i hk2 (hz (a + 2) (by omega) (by omega))).symm
  rw [up_ne hx2]
  rw [up_ne hx0]
  by_cases hx1 : x = (a + 1)
  · rw [hx1, up_eq]; exact (cE_i hk1 (hz (a + 1) (by omega) (by omega))).symm
  rw [up_ne hx1]
  exfalso; omega
set_option maxHeartbeats 4000000 in
set_option maxRecDepth 100000 in
theorem in_X3 {l : Launch} {B : Nat} {D : va_G} {ca : Nat → ClassId} {M : Mem_m} {a : Nat} (hk0 : (kd0_ a).1 = 3) (hk1 : kd0_ (a + 1) = (20, 80)) (hk2 : kd0_ (a + 2) = (20, 3)) (hk3 : kd0_ (a + 3) = (20, 10)) (hz : ∀ x, a ≤ x → x < (a + 4) → M x = fun _ => 0) : IN_ l yX3_init K_X3_init 3 93 (G0_ B D ca) M a (a + 4) 3 := by
  refine in_of (by decide +kernel) rfl rfl (by decide) (fun X hl C hcells hslots => ?_)
  subst hl
  refine I_aload_n (j := 0) C d_X3_init_0 rfl rfl ?_
  refine I_obj C iob_X3_5 ob_ok (by decide) (Nat.le_of_ble_eq_true rfl) d_X3_init_1 ?_
  refine I_aload_n (j := 0) C d_X3_init_4 rfl rfl ?_
  refine I_bipush (v := 80) C d_X3_init_5 rfl ?_
  refine I_newarr (aty := .int) (ty := .int) (t := 0) (N := 80) (v0 := 0) C rfl ia_int rfl (fun _ _ h => h) rfl (by decide) (by decide) (by omega) (by omega) d_X3_init_7 ?_
  refine I_putF (a := a) (b := (a + 1)) (ci := 3) (fs := fresh_ 3) (ty := tyX3 0) C (by decide) ck_3 ((up_ne (by omega)).trans <| rfl) ⟨by omega, by omega⟩ ifw_X3_11 rfl rfl (tyX3_ok 0 (by decide)) rfl rfl (by simp only [List.length_set, fr_len]; decide) d_X3_init_9 ?_
  refine I_aload_n (j := 0) C d_X3_init_12 rfl rfl ?_
  refine I_iconst C d_X3_init_13 ?_
  refine I_newarr (aty := .int) (ty := .int) (t := 0) (N := 3) (v0 := 0) C rfl ia_int rfl (fun _ _ h => h) rfl (by decide) (by decide) (by omega) (by omega) d_X3_init_14 ?_
  refine I_putF (a := a) (b := (a + 2)) (ci := 3) (fs := (fresh_ 3).set 0 (.ref (B + (a + 1)))) (ty := tyX3 2) C (by decide) ck_3 ((up_ne (by omega)).trans <| up_eq) ⟨by omega, by omega⟩ ifw_X3_17 rfl rfl (tyX3_ok 2 (by decide)) rfl rfl (by simp only [List.length_set, fr_len]; decide) d_X3_init_16 ?_
  refine I_aload_n (j := 0) C d_X3_init_19 rfl rfl ?_
  refine I_bipush (v := 10) C d_X3_init_20 rfl ?_
  refine I_newarr (aty := .int) (ty := .int) (t := 0) (N := 10) (v0 := 0) C rfl ia_int rfl (fun _ _ h => h) rfl (by decide) (by decide) (by omega) (by omega) d_X3_init_22 ?_
  refine I_putF (a := a) (b := (a + 3)) (ci := 3) (fs := ((fresh_ 3).set 0 (.ref (B + (a + 1)))).set 2 (.ref (B + (a + 2)))) (ty := tyX3 4) C (by decide) ck_3 ((up_ne (by omega)).trans <| up_eq) ⟨by omega, by omega⟩ ifw_X3_20 rfl rfl (tyX3_ok 4 (by decide)) rfl rfl (by simp only [List.length_set, fr_len]; decide) d_X3_init_24 ?_
  refine I_vret C d_X3_init_27 (by omega) (by omega) (fun x h1 h2 => ?_)
  by_cases hx0 : x = a
  · rw [hx0, up_eq]; exact (cE_o hk0 (by decide) (by rw [hz a (by omega) (by omega), fr_3]; rfl)).symm
  rw [up_ne hx0]
  by_cases hx3 : x = (a + 3)
  · rw [hx3, up_eq]; exact (cE_i hk3 (hz (a + 3) (by omega) (by omega))).symm
  rw [up_ne hx3]
  rw [up_ne hx0]
  by_cases hx2 : x = (a + 2)
  · rw [hx2, up_eq]; exact (cE_i hk2 (hz (a + 2) (by omega) (by omega))).symm
  rw [up_ne hx2]
  rw [up_ne hx0]
  by_cases hx1 : x = (a + 1)
  · rw [hx1, up_eq]; exact (cE_i hk1 (hz (a + 1) (by omega) (by omega))).symm
  rw [up_ne hx1]
  exfalso; omega
set_option maxHeartbeats 4000000 in
set_option maxRecDepth 100000 in
theorem in_X4 {l : Launch} {B : Nat} {D : va_G} {ca : Nat → ClassId} {M : Mem_m} {a : Nat} (hk0 : (kd0_ a).1 = 4) (hk1 : kd0_ (a + 1) = (20, 100)) (hk2 : kd0_ (a + 2) = (20, 10)) (hk3 : kd0_ (a + 3) = (20, 10)) (hz : ∀ x, a ≤ x → x < (a + 4) → M x = fun _ => 0) : IN_ l yX4_init K_X4_init 3 120 (G0_ B D ca) M a (a + 4) 4 := by
  refine in_of (by decide +kernel) rfl rfl (by decide) (fun X hl C hcells hslots => ?_)
  subst hl
  refine I_aload_n (j := 0) C d_X4_init_0 rfl rfl ?_
  refine I_obj C iob_X4_3 ob_ok (by decide) (Nat.le_of_ble_eq_true rfl) d_X4_init_1 ?_
  refine I_aload_n (j := 0) C d_X4_init_4 rfl rfl ?_
  refine I_bipush (v := 100) C d_X4_init_5 rfl ?_
  refine I_newarr (aty := .int) (ty := .int) (t := 0) (N := 100) (v0 := 0) C rfl ia_int rfl (fun _ _ h => h) rfl (by decide) (by decide) (by omega) (by omega) d_X4_init_7 ?_
  refine I_putF (a := a) (b := (a + 1)) (ci := 4) (fs := fresh_ 4) (ty := tyX4 0) C (by decide) ck_4 ((up_ne (by omega)).trans <| rfl) ⟨by omega, by omega⟩ ifw_X4_9 rfl rfl (tyX4_ok 0 (by decide)) rfl rfl (by simp only [List.length_set, fr_len]; decide) d_X4_init_9 ?_
  refine I_aload_n (j := 0) C d_X4_init_12 rfl rfl ?_
  refine I_bipush (v := 10) C d_X4_init_13 rfl ?_
  refine I_newarr (aty := .int) (ty := .int) (t := 0) (N := 10) (v0 := 0) C rfl ia_int rfl (fun _ _ h => h) rfl (by decide) (by decide) (by omega) (by omega) d_X4_init_15 ?_
  refine I_putF (a := a) (b := (a + 2)) (ci := 4) (fs := (fresh_ 4).set 0 (.ref (B + (a + 1)))) (ty := tyX4 1) C (by decide) ck_4 ((up_ne (by omega)).trans <| up_eq) ⟨by omega, by omega⟩ ifw_X4_15 rfl rfl (tyX4_ok 1 (by decide)) rfl rfl (by simp only [List.length_set, fr_len]; decide) d_X4_init_17 ?_
  refine I_aload_n (j := 0) C d_X4_init_20 rfl rfl ?_
  refine I_bipush (v := 10) C d_X4_init_21 rfl ?_
  refine I_newarr (aty := .int) (ty := .int) (t := 0) (N := 10) (v0 := 0) C rfl ia_int rfl (fun _ _ h => h) rfl (by decide) (by decide) (by omega) (by omega) d_X4_init_23 ?_
  refine I_putF (a := a) (b := (a + 3)) (ci := 4) (fs := ((fresh_ 4).set 0 (.ref (B + (a + 1)))).set 1 (.ref (B + (a + 2)))) (ty := tyX4 3) C (by decide) ck_4 ((up_ne (by omega)).trans <| up_eq) ⟨by omega, by omega⟩ ifw_X4_18 rfl rfl (tyX4_ok 3 (by decide)) rfl rfl (by simp only [List.length_set, fr_len]; decide) d_X4_init_25 ?_
  refine I_vret C d_X4_init_28 (by omega) (by omega) (fun x h1 h2 => ?_)
  by_cases hx0 : x = a
  · rw [hx0, up_eq]; exact (cE_o hk0 (by decide) (by rw [hz a (by omega) (by omega), fr_4]; rfl)).symm
  rw [up_ne hx0]
  by_cases hx3 : x = (a + 3)
  · rw [hx3, up_eq]; exact (cE_i hk3 (hz (a + 3) (by omega) (by omega))).symm
  rw [up_ne hx3]
  rw [up_ne hx0]
  by_cases hx2 : x = (a + 2)
  · rw [hx2, up_eq]; exact (cE_i hk2 (hz (a + 2) (by omega) (by omega))).symm
  rw [up_ne hx2]
  rw [up_ne hx0]
  by_cases hx1 : x = (a + 1)
  · rw [hx1, up_eq]; exact (cE_i hk1 (hz (a + 1) (by omega) (by omega))).symm
  rw [up_ne hx1]
  exfalso; omega
