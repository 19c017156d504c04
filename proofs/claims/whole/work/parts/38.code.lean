theorem d_X12_leastList_0 : decode cX12_leastList 0 = .ok (.iload_n 1, 1) := by decide +kernel
theorem d_X12_leastList_1 : decode cX12_leastList 1 = .ok (.i2l, 1) := by decide +kernel
theorem d_X12_leastList_2 : decode cX12_leastList 2 = .ok (.lconst 0, 1) := by decide +kernel
theorem d_X12_leastList_3 : decode cX12_leastList 3 = .ok (.lconst 1, 1) := by decide +kernel
theorem d_X12_leastList_4 : decode cX12_leastList 4 = .ok (.invokestatic 69, 3) := by decide +kernel
theorem d_X12_leastList_7 : decode cX12_leastList 7 = .ok (.ifCond .ne 5, 3) := by decide +kernel
theorem d_X12_leastList_10 : decode cX12_leastList 10 = .ok (.iconst (-1), 1) := by decide +kernel
theorem d_X12_leastList_11 : decode cX12_leastList 11 = .ok (.ireturn, 1) := by decide +kernel
theorem d_X12_leastList_12 : decode cX12_leastList 12 = .ok (.aload_n 0, 1) := by decide +kernel
theorem d_X12_leastList_13 : decode cX12_leastList 13 = .ok (.getfield 9, 3) := by decide +kernel
theorem d_X12_leastList_16 : decode cX12_leastList 16 = .ok (.sipush 1063, 3) := by decide +kernel
theorem d_X12_leastList_19 : decode cX12_leastList 19 = .ok (.iaload, 1) := by decide +kernel
theorem d_X12_leastList_20 : decode cX12_leastList 20 = .ok (.bipush 10, 2) := by decide +kernel
theorem d_X12_leastList_22 : decode cX12_leastList 22 = .ok (.if_icmp .ge 14, 3) := by decide +kernel
theorem d_X12_leastList_25 : decode cX12_leastList 25 = .ok (.aload_n 0, 1) := by decide +kernel
theorem d_X12_leastList_26 : decode cX12_leastList 26 = .ok (.getfield 9, 3) := by decide +kernel
theorem d_X12_leastList_29 : decode cX12_leastList 29 = .ok (.sipush 1063, 3) := by decide +kernel
theorem d_X12_leastList_32 : decode cX12_leastList 32 = .ok (.iaload, 1) := by decide +kernel
theorem d_X12_leastList_33 : decode cX12_leastList 33 = .ok (.goto 5, 3) := by decide +kernel
theorem d_X12_leastList_36 : decode cX12_leastList 36 = .ok (.bipush 10, 2) := by decide +kernel
theorem d_X12_leastList_38 : decode cX12_leastList 38 = .ok (.istore_n 2, 1) := by decide +kernel
theorem d_X12_leastList_39 : decode cX12_leastList 39 = .ok (.iconst 0, 1) := by decide +kernel
theorem d_X12_leastList_40 : decode cX12_leastList 40 = .ok (.istore_n 3, 1) := by decide +kernel
theorem d_X12_leastList_41 : decode cX12_leastList 41 = .ok (.iload_n 3, 1) := by decide +kernel
theorem d_X12_leastList_42 : decode cX12_leastList 42 = .ok (.iload_n 2, 1) := by decide +kernel
theorem d_X12_leastList_43 : decode cX12_leastList 43 = .ok (.if_icmp .ge 22, 3) := by decide +kernel
theorem d_X12_leastList_46 : decode cX12_leastList 46 = .ok (.aload_n 0, 1) := by decide +kernel
theorem d_X12_leastList_47 : decode cX12_leastList 47 = .ok (.getfield 40, 3) := by decide +kernel
theorem d_X12_leastList_50 : decode cX12_leastList 50 = .ok (.iload_n 3, 1) := by decide +kernel
theorem d_X12_leastList_51 : decode cX12_leastList 51 = .ok (.aload_n 0, 1) := by decide +kernel
theorem d_X12_leastList_52 : decode cX12_leastList 52 = .ok (.iload_n 3, 1) := by decide +kernel
theorem d_X12_leastList_53 : decode cX12_leastList 53 = .ok (.bipush 6, 2) := by decide +kernel
theorem d_X12_leastList_55 : decode cX12_leastList 55 = .ok (.invokevirtual 133, 3) := by decide +kernel
theorem d_X12_leastList_58 : decode cX12_leastList 58 = .ok (.iastore, 1) := by decide +kernel
theorem d_X12_leastList_59 : decode cX12_leastList 59 = .ok (.iinc 3 1, 3) := by decide +kernel
theorem d_X12_leastList_62 : decode cX12_leastList 62 = .ok (.goto (-21), 3) := by decide +kernel
theorem d_X12_leastList_65 : decode cX12_leastList 65 = .ok (.iconst 0, 1) := by decide +kernel
theorem d_X12_leastList_66 : decode cX12_leastList 66 = .ok (.istore_n 3, 1) := by decide +kernel
theorem d_X12_leastList_67 : decode cX12_leastList 67 = .ok (.ldc 159, 2) := by decide +kernel
theorem d_X12_leastList_69 : decode cX12_leastList 69 = .ok (.istore 4, 2) := by decide +kernel
theorem d_X12_leastList_71 : decode cX12_leastList 71 = .ok (.iconst 0, 1) := by decide +kernel
theorem d_X12_leastList_72 : decode cX12_leastList 72 = .ok (.istore 5, 2) := by decide +kernel
theorem d_X12_leastList_74 : decode cX12_leastList 74 = .ok (.iload 5, 2) := by decide +kernel
theorem d_X12_leastList_76 : decode cX12_leastList 76 = .ok (.iconst 1, 1) := by decide +kernel
theorem d_X12_leastList_77 : decode cX12_leastList 77 = .ok (.iload_n 2, 1) := by decide +kernel
theorem d_X12_leastList_78 : decode cX12_leastList 78 = .ok (.ishl, 1) := by decide +kernel
theorem d_X12_leastList_79 : decode cX12_leastList 79 = .ok (.if_icmp .ge 71, 3) := by decide +kernel
theorem d_X12_leastList_82 : decode cX12_leastList 82 = .ok (.iconst 0, 1) := by decide +kernel
theorem d_X12_leastList_83 : decode cX12_leastList 83 = .ok (.istore 6, 2) := by decide +kernel
theorem d_X12_leastList_85 : decode cX12_leastList 85 = .ok (.iload 6, 2) := by decide +kernel
theorem d_X12_leastList_87 : decode cX12_leastList 87 = .ok (.iload_n 2, 1) := by decide +kernel
theorem d_X12_leastList_88 : decode cX12_leastList 88 = .ok (.if_icmp .ge 33, 3) := by decide +kernel
theorem d_X12_leastList_91 : decode cX12_leastList 91 = .ok (.aload_n 0, 1) := by decide +kernel
theorem d_X12_leastList_92 : decode cX12_leastList 92 = .ok (.getfield 9, 3) := by decide +kernel
theorem d_X12_leastList_95 : decode cX12_leastList 95 = .ok (.sipush 600, 3) := by decide +kernel
theorem d_X12_leastList_98 : decode cX12_leastList 98 = .ok (.bipush 7, 2) := by decide +kernel
theorem d_X12_leastList_100 : decode cX12_leastList 100 = .ok (.iload 6, 2) := by decide +kernel
theorem d_X12_leastList_102 : decode cX12_leastList 102 = .ok (.imul, 1) := by decide +kernel
theorem d_X12_leastList_103 : decode cX12_leastList 103 = .ok (.iadd, 1) := by decide +kernel
theorem d_X12_leastList_104 : decode cX12_leastList 104 = .ok (.bipush 6, 2) := by decide +kernel
theorem d_X12_leastList_106 : decode cX12_leastList 106 = .ok (.iadd, 1) := by decide +kernel
theorem d_X12_leastList_107 : decode cX12_leastList 107 = .ok (.iload 5, 2) := by decide +kernel
theorem d_X12_leastList_109 : decode cX12_leastList 109 = .ok (.iload 6, 2) := by decide +kernel
theorem d_X12_leastList_111 : decode cX12_leastList 111 = .ok (.ishr, 1) := by decide +kernel
theorem d_X12_leastList_112 : decode cX12_leastList 112 = .ok (.iconst 1, 1) := by decide +kernel
theorem d_X12_leastList_113 : decode cX12_leastList 113 = .ok (.iand, 1) := by decide +kernel
theorem d_X12_leastList_114 : decode cX12_leastList 114 = .ok (.iastore, 1) := by decide +kernel
theorem d_X12_leastList_115 : decode cX12_leastList 115 = .ok (.iinc 6 1, 3) := by decide +kernel
theorem d_X12_leastList_118 : decode cX12_leastList 118 = .ok (.goto (-33), 3) := by decide +kernel
theorem d_X12_leastList_121 : decode cX12_leastList 121 = .ok (.aload_n 0, 1) := by decide +kernel
theorem d_X12_leastList_122 : decode cX12_leastList 122 = .ok (.invokevirtual 160, 3) := by decide +kernel
theorem d_X12_leastList_125 : decode cX12_leastList 125 = .ok (.istore 6, 2) := by decide +kernel
theorem d_X12_leastList_127 : decode cX12_leastList 127 = .ok (.iload 6, 2) := by decide +kernel
theorem d_X12_leastList_129 : decode cX12_leastList 129 = .ok (.iload 4, 2) := by decide +kernel
theorem d_X12_leastList_131 : decode cX12_leastList 131 = .ok (.if_icmp .lt 6, 3) := by decide +kernel
theorem d_X12_leastList_134 : decode cX12_leastList 134 = .ok (.goto 10, 3) := by decide +kernel
theorem d_X12_leastList_137 : decode cX12_leastList 137 = .ok (.iload 6, 2) := by decide +kernel
theorem d_X12_leastList_139 : decode cX12_leastList 139 = .ok (.istore 4, 2) := by decide +kernel
theorem d_X12_leastList_141 : decode cX12_leastList 141 = .ok (.iload 5, 2) := by decide +kernel
theorem d_X12_leastList_143 : decode cX12_leastList 143 = .ok (.istore_n 3, 1) := by decide +kernel
theorem d_X12_leastList_144 : decode cX12_leastList 144 = .ok (.iinc 5 1, 3) := by decide +kernel
theorem d_X12_leastList_147 : decode cX12_leastList 147 = .ok (.goto (-73), 3) := by decide +kernel
theorem d_X12_leastList_150 : decode cX12_leastList 150 = .ok (.iconst 0, 1) := by decide +kernel
theorem d_X12_leastList_151 : decode cX12_leastList 151 = .ok (.istore 5, 2) := by decide +kernel
theorem d_X12_leastList_153 : decode cX12_leastList 153 = .ok (.iload 5, 2) := by decide +kernel
theorem d_X12_leastList_155 : decode cX12_leastList 155 = .ok (.iload_n 2, 1) := by decide +kernel
theorem d_X12_leastList_156 : decode cX12_leastList 156 = .ok (.if_icmp .ge 33, 3) := by decide +kernel
theorem d_X12_leastList_159 : decode cX12_leastList 159 = .ok (.aload_n 0, 1) := by decide +kernel
theorem d_X12_leastList_160 : decode cX12_leastList 160 = .ok (.getfield 9, 3) := by decide +kernel
theorem d_X12_leastList_163 : decode cX12_leastList 163 = .ok (.sipush 600, 3) := by decide +kernel
theorem d_X12_leastList_166 : decode cX12_leastList 166 = .ok (.bipush 7, 2) := by decide +kernel
theorem d_X12_leastList_168 : decode cX12_leastList 168 = .ok (.iload 5, 2) := by decide +kernel
theorem d_X12_leastList_170 : decode cX12_leastList 170 = .ok (.imul, 1) := by decide +kernel
theorem d_X12_leastList_171 : decode cX12_leastList 171 = .ok (.iadd, 1) := by decide +kernel
theorem d_X12_leastList_172 : decode cX12_leastList 172 = .ok (.bipush 6, 2) := by decide +kernel
theorem d_X12_leastList_174 : decode cX12_leastList 174 = .ok (.iadd, 1) := by decide +kernel
theorem d_X12_leastList_175 : decode cX12_leastList 175 = .ok (.aload_n 0, 1) := by decide +kernel
theorem d_X12_leastList_176 : decode cX12_leastList 176 = .ok (.getfield 40, 3) := by decide +kernel
theorem d_X12_leastList_179 : decode cX12_leastList 179 = .ok (.iload 5, 2) := by decide +kernel
theorem d_X12_leastList_181 : decode cX12_leastList 181 = .ok (.iaload, 1) := by decide +kernel
theorem d_X12_leastList_182 : decode cX12_leastList 182 = .ok (.iastore, 1) := by decide +kernel
theorem d_X12_leastList_183 : decode cX12_leastList 183 = .ok (.iinc 5 1, 3) := by decide +kernel
theorem d_X12_leastList_186 : decode cX12_leastList 186 = .ok (.goto (-33), 3) := by decide +kernel
theorem d_X12_leastList_189 : decode cX12_leastList 189 = .ok (.iload_n 1, 1) := by decide +kernel
theorem d_X12_leastList_190 : decode cX12_leastList 190 = .ok (.ifCond .ne 8, 3) := by decide +kernel
theorem d_X12_leastList_193 : decode cX12_leastList 193 = .ok (.iload 4, 2) := by decide +kernel
theorem d_X12_leastList_195 : decode cX12_leastList 195 = .ok (.goto 4, 3) := by decide +kernel
theorem d_X12_leastList_198 : decode cX12_leastList 198 = .ok (.iload_n 3, 1) := by decide +kernel
theorem d_X12_leastList_199 : decode cX12_leastList 199 = .ok (.ireturn, 1) := by decide +kernel
set_option maxHeartbeats 4000000 in
set_option maxRecDepth 100000 in
theorem t_X12_leastList_85 {X : XT_x} {G : GT_g} {z : (Mem_m × Int)} (C : Cx_ (K_X12_leastList) X G) (hR : Rx_ X G (some .int)) (x0 : Nat) (x1 : Int) (x2 : Int) (x3 : Int) (x4 : Int) (x5 : Int) (o_x1 : ok_i x1) (o_x2 : ok_i x2) (o_x3 : ok_i x3) (o_x4 : ok_i x4) (o_x5 : ok_i x5) (k_74 : Mem_m → Int → Int → Int → Option (Mem_m × Int)) (hk_74 : ∀ (M : Mem_m) (x3 : Int) (x4 : Int) (x5 : Int) (o_x3 : ok_i x3) (o_x4 : ok_i x4) (o_x5 : ok_i x5), k_74 M x3 x4 x5 = some z → V_ (K_X12_leastList) X G (Fq_ X G (Qi_ G z.1 z.2)) M 74 [(0, .ref (G.1 + x0)), (1, iv_i x1), (2, iv_i x2), (3, iv_i x3), (4, iv_i x4), (5, iv_i x5)] []) : ∀ (n : Nat) (M : Mem_m) (x6 : Int) (o_x6 : ok_i x6), f_X12_leastList_85 G.2.2.2 k_74 x0 x1 x2 x3 x4 x5 n M x6 = some z → V_ (K_X12_leastList) X G (Fq_ X G (Qi_ G z.1 z.2)) M 85 [(0, .ref (G.1 + x0)), (1, iv_i x1), (2, iv_i x2), (3, iv_i x3), (4, iv_i x4), (5, iv_i x5), (6, iv_i x6)] [] := by
  intro n
  induction n with
  | zero => intro M x6 o_x6 h; exact absurd h (by simp [f_X12_leastList_85])
  | succ n ih =>
    intro M x6 o_x6 h
    unfold f_X12_leastList_85 at h
    refine V_iload (j := 6) C d_X12_leastList_85 rfl ?_
    refine V_iload_n (j := 2) C d_X12_leastList_87 rfl rfl ?_
    refine V_icmp_ge (tgt := 121) C d_X12_leastList_88 (by decide) o_x6 o_x2 h (fun h => ?_) (fun h => ?_)
    · skip
      refine V_aload_n (j := 0) C d_X12_leastList_91 rfl rfl ?_
      refine V_getR C ck_12 fw_X12_9 d_X12_leastList_92 h (fun v1 h => ?_)
      refine V_sipush (v := 600) C d_X12_leastList_95 rfl ?_
      refine V_bipush (v := 7) C d_X12_leastList_98 rfl ?_
      refine V_iload (j := 6) C d_X12_leastList_100 rfl ?_
      refine V_imul C d_X12_leastList_102 ?_
      refine V_iadd C d_X12_leastList_103 ?_
      refine V_bipush (v := 6) C d_X12_leastList_104 rfl ?_
      refine V_iadd C d_X12_leastList_106 ?_
      refine V_iload (j := 5) C d_X12_leastList_107 rfl ?_
      refine V_iload (j := 6) C d_X12_leastList_109 rfl ?_
      refine V_ishr C d_X12_leastList_111 ?_
      refine V_iconst C d_X12_leastList_112 ?_
      refine V_iand C d_X12_leastList_113 ?_
      refine V_iast C d_X12_leastList_114 (ok_wr _) (ok_I _) h (fun M2 h => ?_)
      refine V_iinc (j := 6) (lv' := [(6, iv_i (wr_i (x6 + 1))), (0, .ref (G.1 + x0)), (1, iv_i x1), (2, iv_i x2), (3, iv_i x3), (4, iv_i x4), (5, iv_i x5)]) C d_X12_leastList_115 rfl (by decide) rfl ?_
      refine V_goto (tgt := 85) C d_X12_leastList_118 (by decide) ?_
      refine V_lv [1, 2, 3, 4, 5, 6, 0] rfl (ih M2 (wr_i (x6 + 1)) (ok_wr _) h)
    · skip
      refine V_aload_n (j := 0) C d_X12_leastList_121 rfl rfl ?_
      refine V_callVwi (K' := K_X12_listed) (a := x0) (ci := 12) (av := []) (rest := []) yi_X12_listed (by decide) rfl C (yk_X12_listed) l1_X12_160 (by decide) d_X12_leastList_122 (fun v hv => ct_X12_listed x0 hv) rfl rfl (Nat.le_of_ble_eq_true rfl) h (fun z3 o3 h => ?_)
      refine V_istore (lv' := [(6, iv_i z3.2), (0, .ref (G.1 + x0)), (1, iv_i x1), (2, iv_i x2), (3, iv_i x3), (4, iv_i x4), (5, iv_i x5)]) C d_X12_leastList_125 (by decide) rfl ?_
      refine V_iload (j := 0) C d_X12_leastList_127 rfl ?_
      refine V_iload (j := 5) C d_X12_leastList_129 rfl ?_
      refine V_icmp_lt (tgt := 137) C d_X12_leastList_131 (by decide) o3 o_x4 h (fun h => ?_) (fun h => ?_)
      · skip
        refine V_iload (j := 0) C d_X12_leastList_137 rfl ?_
        refine V_istore (lv' := [(4, iv_i z3.2), (6, iv_i z3.2), (0, .ref (G.1 + x0)), (1, iv_i x1), (2, iv_i x2), (3, iv_i x3), (5, iv_i x5)]) C d_X12_leastList_139 (by decide) rfl ?_
        refine V_iload (j := 6) C d_X12_leastList_141 rfl ?_
        refine V_istore_n (lv' := [(3, iv_i x5), (4, iv_i z3.2), (6, iv_i z3.2), (0, .ref (G.1 + x0)), (1, iv_i x1), (2, iv_i x2), (5, iv_i x5)]) C d_X12_leastList_143 rfl (by decide) rfl ?_
        refine V_iinc (j := 6) (lv' := [(5, iv_i (wr_i (x5 + 1))), (3, iv_i x5), (4, iv_i z3.2), (6, iv_i z3.2), (0, .ref (G.1 + x0)), (1, iv_i x1), (2, iv_i x2)]) C d_X12_leastList_144 rfl (by decide) rfl ?_
        refine V_goto (tgt := 74) C d_X12_leastList_147 (by decide) ?_
        refine V_lv [4, 5, 6, 1, 2, 0] rfl (hk_74 z3.1 x5 z3.2 (wr_i (x5 + 1)) o_x5 o3 (ok_wr _) h)
      · skip
        refine V_goto (tgt := 144) C d_X12_leastList_134 (by decide) ?_
        refine V_iinc (j := 6) (lv' := [(5, iv_i (wr_i (x5 + 1))), (6, iv_i z3.2), (0, .ref (G.1 + x0)), (1, iv_i x1), (2, iv_i x2), (3, iv_i x3), (4, iv_i x4)]) C d_X12_leastList_144 rfl (by decide) rfl ?_
        refine V_goto (tgt := 74) C d_X12_leastList_147 (by decide) ?_
        refine V_lv [2, 3, 4, 5, 6, 0] rfl (hk_74 z3.1 x3 x4 (wr_i (x5 + 1)) o_x3 o_x4 (ok_wr _) h)
set_option maxHeartbeats 4000000 in
set_option maxRecDepth 100000 in
theorem t_X12_leastList_153 {X : XT_x} {G : GT_g} {z : (Mem_m × Int)} (C : Cx_ (K_X12_leastList) X G) (hR : Rx_ X G (some .int)) (x0 : Nat) (x1 : Int) (x2 : Int) (x3 : Int) (x4 : Int) (o_x1 : ok_i x1) (o_x2 : ok_i x2) (o_x3 : ok_i x3) (o_x4 : ok_i x4) : ∀ (n : Nat) (M : Mem_m) (x5 : Int) (o_x5 : ok_i x5), f_X12_leastList_153 G.2.2.2 x0 x1 x2 x3 x4 n M x5 = some z → V_ (K_X12_leastList) X G (Fq_ X G (Qi_ G z.1 z.2)) M 153 [(0, .ref (G.1 + x0)), (1, iv_i x1), (2, iv_i x2), (3, iv_i x3), (4, iv_i x4), (5, iv_i x5)] [] := by
  intro n
  induction n with
  | zero => intro M x5 o_x5 h; exact absurd h (by simp [f_X12_leastList_153])
  | succ n ih =>
    intro M x5 o_x5 h
    unfold f_X12_leastList_153 at h
    refine V_iload (j := 5) C d_X12_leastList_153 rfl ?_
    refine V_iload_n (j := 2) C d_X12_leastList_155 rfl rfl ?_
    refine V_icmp_ge (tgt := 189) C d_X12_leastList_156 (by decide) o_x5 o_x2 h (fun h => ?_) (fun h => ?_)
    · skip
      refine V_aload_n (j := 0) C d_X12_leastList_159 rfl rfl ?_
      refine V_getR C ck_12 fw_X12_9 d_X12_leastList_160 h (fun v1 h => ?_)
      refine V_sipush (v := 600) C d_X12_leastList_163 rfl ?_
      refine V_bipush (v := 7) C d_X12_leastList_166 rfl ?_
      refine V_iload (j := 5) C d_X12_leastList_168 rfl ?_
      refine V_imul C d_X12_leastList_170 ?_
      refine V_iadd C d_X12_leastList_171 ?_
      refine V_bipush (v := 6) C d_X12_leastList_172 rfl ?_
      refine V_iadd C d_X12_leastList_174 ?_
      refine V_aload_n (j := 0) C d_X12_leastList_175 rfl rfl ?_
      refine V_getR C ck_12 fw_X12_40 d_X12_leastList_176 h (fun v2 h => ?_)
      refine V_iload (j := 5) C d_X12_leastList_179 rfl ?_
      refine V_iald C d_X12_leastList_181 o_x5 h (fun v3 o3 h => ?_)
      refine V_iast C d_X12_leastList_182 (ok_wr _) o3 h (fun M4 h => ?_)
      refine V_iinc (j := 5) (lv' := [(5, iv_i (wr_i (x5 + 1))), (0, .ref (G.1 + x0)), (1, iv_i x1), (2, iv_i x2), (3, iv_i x3), (4, iv_i x4)]) C d_X12_leastList_183 rfl (by decide) rfl ?_
      refine V_goto (tgt := 153) C d_X12_leastList_186 (by decide) ?_
      refine V_lv [1, 2, 3, 4, 5, 0] rfl (ih M4 (wr_i (x5 + 1)) (ok_wr _) h)
    · skip
      refine V_iload_n (j := 1) C d_X12_leastList_189 rfl rfl ?_
      refine V_if_ne (tgt := 198) C d_X12_leastList_190 (by decide) o_x1 h (fun h => ?_) (fun h => ?_)
      · skip
        refine V_iload (j := 4) C d_X12_leastList_193 rfl ?_
        refine V_goto (tgt := 199) C d_X12_leastList_195 (by decide) ?_
        exact V_iret_w C hR d_X12_leastList_199 o_x4 h
      · skip
        refine V_iload_n (j := 3) C d_X12_leastList_198 rfl rfl ?_
        exact V_iret_w C hR d_X12_leastList_199 o_x3 h
set_option maxHeartbeats 4000000 in
set_option maxRecDepth 100000 in
theorem t_X12_leastList_74 {X : XT_x} {G : GT_g} {z : (Mem_m × Int)} (C : Cx_ (K_X12_leastList) X G) (hR : Rx_ X G (some .int)) (x0 : Nat) (x1 : Int) (x2 : Int) (o_x1 : ok_i x1) (o_x2 : ok_i x2) : ∀ (n : Nat) (M : Mem_m) (x3 : Int) (x4 : Int) (x5 : Int) (o_x3 : ok_i x3) (o_x4 : ok_i x4) (o_x5 : ok_i x5), f_X12_leastList_74 G.2.2.2 x0 x1 x2 n M x3 x4 x5 = some z → V_ (K_X12_leastList) X G (Fq_ X G (Qi_ G z.1 z.2)) M 74 [(0, .ref (G.1 + x0)), (1, iv_i x1), (2, iv_i x2), (3, iv_i x3), (4, iv_i x4), (5, iv_i x5)] [] := by
  intro n
  induction n with
  | zero => intro M x3 x4 x5 o_x3 o_x4 o_x5 h; exact absurd h (by simp [f_X12_leastList_74])
  | succ n ih =>
    intro M x3 x4 x5 o_x3 o_x4 o_x5 h
    unfold f_X12_leastList_74 at h
    refine V_iload (j := 5) C d_X12_leastList_74 rfl ?_
    refine V_iconst C d_X12_leastList_76 ?_
    refine V_iload_n (j := 2) C d_X12_leastList_77 rfl rfl ?_
    refine V_ishl C d_X12_leastList_78 ?_
    refine V_icmp_ge (tgt := 150) C d_X12_leastList_79 (by decide) o_x5 (ok_I _) h (fun h => ?_) (fun h => ?_)
    · skip
      refine V_iconst C d_X12_leastList_82 ?_
      refine V_istore (lv' := [(6, iv_i 0), (0, .ref (G.1 + x0)), (1, iv_i x1), (2, iv_i x2), (3, iv_i x3), (4, iv_i x4), (5, iv_i x5)]) C d_X12_leastList_83 (by decide) rfl ?_
      refine V_lv [1, 2, 3, 4, 5, 6, 0] rfl (t_X12_leastList_85 C hR x0 x1 x2 x3 x4 x5 o_x1 o_x2 o_x3 o_x4 o_x5 (fun M x3 x4 x5 => f_X12_leastList_74 G.2.2.2 x0 x1 x2 n M x3 x4 x5) (fun M x3 x4 x5 o_x3 o_x4 o_x5 h9 => ih M x3 x4 x5 o_x3 o_x4 o_x5 h9) FU_ M 0 (okc rfl) h)
    · skip
      refine V_iconst C d_X12_leastList_150 ?_
      refine V_istore (lv' := [(5, iv_i 0), (0, .ref (G.1 + x0)), (1, iv_i x1), (2, iv_i x2), (3, iv_i x3), (4, iv_i x4)]) C d_X12_leastList_151 (by decide) rfl ?_
      refine V_lv [1, 2, 3, 4, 5, 0] rfl (t_X12_leastList_153 C hR x0 x1 x2 x3 x4 o_x1 o_x2 o_x3 o_x4 FU_ M 0 (okc rfl) h)
set_option maxHeartbeats 4000000 in
set_option maxRecDepth 100000 in
theorem t_X12_leastList_41 {X : XT_x} {G : GT_g} {z : (Mem_m × Int)} (C : Cx_ (K_X12_leastList) X G) (hR : Rx_ X G (some .int)) (x0 : Nat) (x1 : Int) (x2 : Int) (o_x1 : ok_i x1) (o_x2 : ok_i x2) : ∀ (n : Nat) (M : Mem_m) (x3 : Int) (o_x3 : ok_i x3), f_X12_leastList_41 G.2.2.2 x0 x1 x2 n M x3 = some z → V_ (K_X12_leastList) X G (Fq_ X G (Qi_ G z.1 z.2)) M 41 [(0, .ref (G.1 + x0)), (1, iv_i x1), (2, iv_i x2), (3, iv_i x3)] [] := by
  intro n
  induction n with
  | zero => intro M x3 o_x3 h; exact absurd h (by simp [f_X12_leastList_41])
  | succ n ih =>
    intro M x3 o_x3 h
    unfold f_X12_leastList_41 at h
    refine V_iload_n (j := 3) C d_X12_leastList_41 rfl rfl ?_
    refine V_iload_n (j := 2) C d_X12_leastList_42 rfl rfl ?_
    refine V_icmp_ge (tgt := 65) C d_X12_leastList_43 (by decide) o_x3 o_x2 h (fun h => ?_) (fun h => ?_)
    · skip
      refine V_aload_n (j := 0) C d_X12_leastList_46 rfl rfl ?_
      refine V_getR C ck_12 fw_X12_40 d_X12_leastList_47 h (fun v1 h => ?_)
      refine V_iload_n (j := 3) C d_X12_leastList_50 rfl rfl ?_
      refine V_aload_n (j := 0) C d_X12_leastList_51 rfl rfl ?_
      refine V_iload_n (j := 3) C d_X12_leastList_52 rfl rfl ?_
      refine V_bipush (v := 6) C d_X12_leastList_53 rfl ?_
      refine V_callVri (K' := K_X12_noteOf) (a := x0) (ci := 12) (av := [iv_i x3, iv_i 6]) (rest := [iv_i x3, .ref (G.1 + v1)]) yi_X12_noteOf (by decide) rfl C (yk_X12_noteOf) l1_X12_133 (by decide) d_X12_leastList_55 (fun v hv => ct_X12_noteOf x0 x3 6 o_x3 (okc rfl) hv) rfl rfl (Nat.le_of_ble_eq_true rfl) h (fun v2 o2 h => ?_)
      refine V_iast C d_X12_leastList_58 o_x3 o2 h (fun M3 h => ?_)
      refine V_iinc (j := 3) (lv' := [(3, iv_i (wr_i (x3 + 1))), (0, .ref (G.1 + x0)), (1, iv_i x1), (2, iv_i x2)]) C d_X12_leastList_59 rfl (by decide) rfl ?_
      refine V_goto (tgt := 41) C d_X12_leastList_62 (by decide) ?_
      refine V_lv [1, 2, 3, 0] rfl (ih M3 (wr_i (x3 + 1)) (ok_wr _) h)
    · skip
      refine V_iconst C d_X12_leastList_65 ?_
      refine V_istore_n (lv' := [(3, iv_i 0), (0, .ref (G.1 + x0)), (1, iv_i x1), (2, iv_i x2)]) C d_X12_leastList_66 rfl (by decide) rfl ?_
      refine V_ldc (v := 1000000000) C d_X12_leastList_67 cn_X12_159 ?_
      refine V_istore (lv' := [(4, iv_i 1000000000), (3, iv_i 0), (0, .ref (G.1 + x0)), (1, iv_i x1), (2, iv_i x2)]) C d_X12_leastList_69 (by decide) rfl ?_
      refine V_iconst C d_X12_leastList_71 ?_
      refine V_istore (lv' := [(5, iv_i 0), (4, iv_i 1000000000), (3, iv_i 0), (0, .ref (G.1 + x0)), (1, iv_i x1), (2, iv_i x2)]) C d_X12_leastList_72 (by decide) rfl ?_
      refine V_lv [3, 4, 5, 2, 1, 0] rfl (t_X12_leastList_74 C hR x0 x1 x2 o_x1 o_x2 FU_ M 0 1000000000 0 (okc rfl) (okc rfl) (okc rfl) h)
set_option maxHeartbeats 4000000 in
set_option maxRecDepth 100000 in
theorem t_X12_leastList {X : XT_x} {G : GT_g} {M : Mem_m} {z : (Mem_m × Int)} (C : Cx_ (K_X12_leastList) X G) (hR : Rx_ X G (some .int)) (x0 : Nat) (x1 : Int) (o_x1 : ok_i x1) (h : f_X12_leastList G.2.2.2 M x0 x1 = some z) : V_ (K_X12_leastList) X G (Fq_ X G (Qi_ G z.1 z.2)) M 0 [(0, .ref (G.1 + x0)), (1, iv_i x1)] [] := by
  unfold f_X12_leastList at h
  refine V_iload_n (j := 1) C d_X12_leastList_0 rfl rfl ?_
  refine V_i2l C d_X12_leastList_1 o_x1 ?_
  refine V_lconst0 C d_X12_leastList_2 ?_
  refine V_lconst1 C d_X12_leastList_3 ?_
  refine V_callSri (K' := K_X12_isIn) (av := [jv_i x1, jv_i 0, jv_i 1]) (rest := []) ys_X12_isIn C (yk_X12_isIn) l1_X12_69 (by decide) d_X12_leastList_4 (fun v hv => ct_X12_isIn x1 0 1 o_x1 (okc rfl) (okc rfl) hv) rfl rfl (Nat.le_of_ble_eq_true rfl) h (fun v1 o1 h => ?_)
  refine V_if_ne (tgt := 12) C d_X12_leastList_7 (by decide) o1 h (fun h => ?_) (fun h => ?_)
  · skip
    refine V_iconst C d_X12_leastList_10 ?_
    exact V_iret_w C hR d_X12_leastList_11 (okc rfl) h
  · skip
    refine V_aload_n (j := 0) C d_X12_leastList_12 rfl rfl ?_
    refine V_getR C ck_12 fw_X12_9 d_X12_leastList_13 h (fun v2 h => ?_)
    refine V_sipush (v := 1063) C d_X12_leastList_16 rfl ?_
    refine V_iald C d_X12_leastList_19 (okc rfl) h (fun v3 o3 h => ?_)
    refine V_bipush (v := 10) C d_X12_leastList_20 rfl ?_
    refine V_icmp_ge (tgt := 36) C d_X12_leastList_22 (by decide) o3 (okc rfl) h (fun h => ?_) (fun h => ?_)
    · skip
      refine V_aload_n (j := 0) C d_X12_leastList_25 rfl rfl ?_
      refine V_getR C ck_12 fw_X12_9 d_X12_leastList_26 h (fun v4 h => ?_)
      refine V_sipush (v := 1063) C d_X12_leastList_29 rfl ?_
      refine V_iald C d_X12_leastList_32 (okc rfl) h (fun v5 o5 h => ?_)
      refine V_goto (tgt := 38) C d_X12_leastList_33 (by decide) ?_
      refine V_istore_n (lv' := [(2, iv_i v5), (0, .ref (G.1 + x0)), (1, iv_i x1)]) C d_X12_leastList_38 rfl (by decide) rfl ?_
      refine V_iconst C d_X12_leastList_39 ?_
      refine V_istore_n (lv' := [(3, iv_i 0), (2, iv_i v5), (0, .ref (G.1 + x0)), (1, iv_i x1)]) C d_X12_leastList_40 rfl (by decide) rfl ?_
      refine V_lv [2, 3, 1, 0] rfl (t_X12_leastList_41 C hR x0 x1 v5 o_x1 o5 FU_ M 0 (okc rfl) h)
    · skip
      refine V_bipush (v := 10) C d_X12_leastList_36 rfl ?_
      refine V_istore_n (lv' := [(2, iv_i 10), (0, .ref (G.1 + x0)), (1, iv_i x1)]) C d_X12_leastList_38 rfl (by decide) rfl ?_
      refine V_iconst C d_X12_leastList_39 ?_
      refine V_istore_n (lv' := [(3, iv_i 0), (2, iv_i 10), (0, .ref (G.1 + x0)), (1, iv_i x1)]) C d_X12_leastList_40 rfl (by decide) rfl ?_
      refine V_lv [2, 3, 1, 0] rfl (t_X12_leastList_41 C hR x0 x1 10 o_x1 (okc rfl) FU_ M 0 (okc rfl) h)
set_option maxHeartbeats 4000000 in
set_option maxRecDepth 100000 in
theorem ct_X12_leastList {l : Launch} {G : GT_g} {M : Mem_m} (x0 : Nat) (x1 : Int) (o_x1 : ok_i x1) {z : (Mem_m × Int)} (h : f_X12_leastList G.2.2.2 M x0 x1 = some z) : MI_ l yX12_leastList K_X12_leastList (some .int) G M [.ref (G.1 + x0), iv_i x1] z.1 z.2 :=
  met_of (by decide +kernel) rfl (Nat.le_of_ble_eq_true rfl) (fun X hl C hR => by subst hl; exact t_X12_leastList C hR x0 x1 o_x1 h)
theorem d_X12_sign_0 : decode cX12_sign 0 = .ok (.aload_n 0, 1) := by decide +kernel
theorem d_X12_sign_1 : decode cX12_sign 1 = .ok (.getfield 164, 3) := by decide +kernel
theorem d_X12_sign_4 : decode cX12_sign 4 = .ok (.aload_n 0, 1) := by decide +kernel
theorem d_X12_sign_5 : decode cX12_sign 5 = .ok (.getfield 167, 3) := by decide +kernel
theorem d_X12_sign_8 : decode cX12_sign 8 = .ok (.if_icmp .ge 20, 3) := by decide +kernel
theorem d_X12_sign_11 : decode cX12_sign 11 = .ok (.aload_n 0, 1) := by decide +kernel
theorem d_X12_sign_12 : decode cX12_sign 12 = .ok (.getfield 25, 3) := by decide +kernel
theorem d_X12_sign_15 : decode cX12_sign 15 = .ok (.aload_n 0, 1) := by decide +kernel
theorem d_X12_sign_16 : decode cX12_sign 16 = .ok (.getfield 170, 3) := by decide +kernel
theorem d_X12_sign_19 : decode cX12_sign 19 = .ok (.aload_n 0, 1) := by decide +kernel
theorem d_X12_sign_20 : decode cX12_sign 20 = .ok (.getfield 164, 3) := by decide +kernel
theorem d_X12_sign_23 : decode cX12_sign 23 = .ok (.iadd, 1) := by decide +kernel
theorem d_X12_sign_24 : decode cX12_sign 24 = .ok (.iaload, 1) := by decide +kernel
theorem d_X12_sign_25 : decode cX12_sign 25 = .ok (.goto 6, 3) := by decide +kernel
theorem d_X12_sign_28 : decode cX12_sign 28 = .ok (.sipush (-1000), 3) := by decide +kernel
theorem d_X12_sign_31 : decode cX12_sign 31 = .ok (.ireturn, 1) := by decide +kernel
set_option maxHeartbeats 4000000 in
set_option maxRecDepth 100000 in
theorem t_X12_sign {X : XT_x} {G : GT_g} {M : Mem_m} {z : Int} (C : Cx_ (K_X12_sign) X G) (hR : Rx_ X G (some .int)) (x0 : Nat)  (h : f_X12_sign G.2.2.2 M x0 = some z) : V_ (K_X12_sign) X G (Fq_ X G (Qi_ G M z)) M 0 [(0, .ref (G.1 + x0))] [] := by
  unfold f_X12_sign at h
  refine V_aload_n (j := 0) C d_X12_sign_0 rfl rfl ?_
  refine V_getI C ck_12 fw_X12_164 d_X12_sign_1 h (fun v1 o1 h => ?_)
  refine V_aload_n (j := 0) C d_X12_sign_4 rfl rfl ?_
  refine V_getI C ck_12 fw_X12_167 d_X12_sign_5 h (fun v2 o2 h => ?_)
  refine V_icmp_ge (tgt := 28) C d_X12_sign_8 (by decide) o1 o2 h (fun h => ?_) (fun h => ?_)
  · skip
    refine V_aload_n (j := 0) C d_X12_sign_11 rfl rfl ?_
    refine V_getR C ck_12 fw_X12_25 d_X12_sign_12 h (fun v3 h => ?_)
    refine V_aload_n (j := 0) C d_X12_sign_15 rfl rfl ?_
    refine V_getI C ck_12 fw_X12_170 d_X12_sign_16 h (fun v4 o4 h => ?_)
    refine V_aload_n (j := 0) C d_X12_sign_19 rfl rfl ?_
    refine V_getI C ck_12 fw_X12_164 d_X12_sign_20 h (fun v5 o5 h => ?_)
    refine V_iadd C d_X12_sign_23 ?_
    refine V_iald C d_X12_sign_24 (ok_wr _) h (fun v6 o6 h => ?_)
    refine V_goto (tgt := 31) C d_X12_sign_25 (by decide) ?_
    exact V_iret_r C hR d_X12_sign_31 o6 h
  · skip
    refine V_sipush (v := (-1000)) C d_X12_sign_28 rfl ?_
    exact V_iret_r C hR d_X12_sign_31 (okc rfl) h
set_option maxHeartbeats 4000000 in
set_option maxRecDepth 100000 in
theorem ct_X12_sign {l : Launch} {G : GT_g} {M : Mem_m} (x0 : Nat)  {z : Int} (h : f_X12_sign G.2.2.2 M x0 = some z) : MI_ l yX12_sign K_X12_sign (some .int) G M [.ref (G.1 + x0)] M z :=
  met_of (by decide +kernel) rfl (Nat.le_of_ble_eq_true rfl) (fun X hl C hR => by subst hl; exact t_X12_sign C hR x0  h)
theorem d_X12_takes_0 : decode cX12_takes 0 = .ok (.aload_n 0, 1) := by decide +kernel
theorem d_X12_takes_1 : decode cX12_takes 1 = .ok (.invokevirtual 173, 3) := by decide +kernel
theorem d_X12_takes_4 : decode cX12_takes 4 = .ok (.iload_n 1, 1) := by decide +kernel
theorem d_X12_takes_5 : decode cX12_takes 5 = .ok (.if_icmp .eq 5, 3) := by decide +kernel
theorem d_X12_takes_8 : decode cX12_takes 8 = .ok (.iconst 0, 1) := by decide +kernel
theorem d_X12_takes_9 : decode cX12_takes 9 = .ok (.ireturn, 1) := by decide +kernel
theorem d_X12_takes_10 : decode cX12_takes 10 = .ok (.aload_n 0, 1) := by decide +kernel
theorem d_X12_takes_11 : decode cX12_takes 11 = .ok (.dup, 1) := by decide +kernel
theorem d_X12_takes_12 : decode cX12_takes 12 = .ok (.getfield 164, 3) := by decide +kernel
theorem d_X12_takes_15 : decode cX12_takes 15 = .ok (.iconst 1, 1) := by decide +kernel
theorem d_X12_takes_16 : decode cX12_takes 16 = .ok (.iadd, 1) := by decide +kernel
theorem d_X12_takes_17 : decode cX12_takes 17 = .ok (.putfield 164, 3) := by decide +kernel
theorem d_X12_takes_20 : decode cX12_takes 20 = .ok (.iconst 1, 1) := by decide +kernel
theorem d_X12_takes_21 : decode cX12_takes 21 = .ok (.ireturn, 1) := by decide +kernel
set_option maxHeartbeats 4000000 in
set_option maxRecDepth 100000 in
theorem t_X12_takes {X : XT_x} {G : GT_g} {M : Mem_m} {z : (Mem_m × Int)} (C : Cx_ (K_X12_takes) X G) (hR : Rx_ X G (some .boolean)) (x0 : Nat) (x1 : Int) (o_x1 : ok_i x1) (h : f_X12_takes G.2.2.2 M x0 x1 = some z) : V_ (K_X12_takes) X G (Fq_ X G (Qi_ G z.1 z.2)) M 0 [(0, .ref (G.1 + x0)), (1, iv_i x1)] [] := by
  unfold f_X12_takes at h
  refine V_aload_n (j := 0) C d_X12_takes_0 rfl rfl ?_
  refine V_callVri (K' := K_X12_sign) (a := x0) (ci := 12) (av := []) (rest := []) yi_X12_sign (by decide) rfl C (yk_X12_sign) l1_X12_173 (by decide) d_X12_takes_1 (fun v hv => ct_X12_sign x0 hv) rfl rfl (Nat.le_of_ble_eq_true rfl) h (fun v1 o1 h => ?_)
  refine V_iload_n (j := 1) C d_X12_takes_4 rfl rfl ?_
  refine V_icmp_eq (tgt := 10) C d_X12_takes_5 (by decide) o1 o_x1 h (fun h => ?_) (fun h => ?_)
  · skip
    refine V_aload_n (j := 0) C d_X12_takes_10 rfl rfl ?_
    refine V_dup C d_X12_takes_11 rfl ?_
    refine V_getI C ck_12 fw_X12_164 d_X12_takes_12 h (fun v2 o2 h => ?_)
    refine V_iconst C d_X12_takes_15 ?_
    refine V_iadd C d_X12_takes_16 ?_
    refine V_putI C ck_12 fw_X12_164 fp_12_14 d_X12_takes_17 (ok_wr _) h (fun M3 h => ?_)
    refine V_iconst C d_X12_takes_20 ?_
    exact V_zret_w C hR d_X12_takes_21 (Or.inr rfl) h
  · skip
    refine V_iconst C d_X12_takes_8 ?_
    exact V_zret_w C hR d_X12_takes_9 (Or.inl rfl) h
set_option maxHeartbeats 4000000 in
set_option maxRecDepth 100000 in
theorem ct_X12_takes {l : Launch} {G : GT_g} {M : Mem_m} (x0 : Nat) (x1 : Int) (o_x1 : ok_i x1) {z : (Mem_m × Int)} (h : f_X12_takes G.2.2.2 M x0 x1 = some z) : MI_ l yX12_takes K_X12_takes (some .boolean) G M [.ref (G.1 + x0), iv_i x1] z.1 z.2 :=
  met_of (by decide +kernel) rfl (Nat.le_of_ble_eq_true rfl) (fun X hl C hR => by subst hl; exact t_X12_takes C hR x0 x1 o_x1 h)
theorem d_X12_readsNumber_0 : decode cX12_readsNumber 0 = .ok (.aload_n 0, 1) := by decide +kernel
theorem d_X12_readsNumber_1 : decode cX12_readsNumber 1 = .ok (.invokevirtual 173, 3) := by decide +kernel
theorem d_X12_readsNumber_4 : decode cX12_readsNumber 4 = .ok (.i2l, 1) := by decide +kernel
theorem d_X12_readsNumber_5 : decode cX12_readsNumber 5 = .ok (.ldc2_w 176, 3) := by decide +kernel
theorem d_X12_readsNumber_8 : decode cX12_readsNumber 8 = .ok (.bipush 48, 2) := by decide +kernel
theorem d_X12_readsNumber_10 : decode cX12_readsNumber 10 = .ok (.iload_n 2, 1) := by decide +kernel
theorem d_X12_readsNumber_11 : decode cX12_readsNumber 11 = .ok (.iadd, 1) := by decide +kernel
theorem d_X12_readsNumber_12 : decode cX12_readsNumber 12 = .ok (.i2l, 1) := by decide +kernel
theorem d_X12_readsNumber_13 : decode cX12_readsNumber 13 = .ok (.invokestatic 69, 3) := by decide +kernel
theorem d_X12_readsNumber_16 : decode cX12_readsNumber 16 = .ok (.ifCond .ne 5, 3) := by decide +kernel
theorem d_X12_readsNumber_19 : decode cX12_readsNumber 19 = .ok (.iconst 0, 1) := by decide +kernel
theorem d_X12_readsNumber_20 : decode cX12_readsNumber 20 = .ok (.ireturn, 1) := by decide +kernel
theorem d_X12_readsNumber_21 : decode cX12_readsNumber 21 = .ok (.aload_n 0, 1) := by decide +kernel
theorem d_X12_readsNumber_22 : decode cX12_readsNumber 22 = .ok (.getfield 43, 3) := by decide +kernel
theorem d_X12_readsNumber_25 : decode cX12_readsNumber 25 = .ok (.iload_n 1, 1) := by decide +kernel
theorem d_X12_readsNumber_26 : decode cX12_readsNumber 26 = .ok (.aload_n 0, 1) := by decide +kernel
theorem d_X12_readsNumber_27 : decode cX12_readsNumber 27 = .ok (.invokevirtual 173, 3) := by decide +kernel
theorem d_X12_readsNumber_30 : decode cX12_readsNumber 30 = .ok (.bipush 48, 2) := by decide +kernel
theorem d_X12_readsNumber_32 : decode cX12_readsNumber 32 = .ok (.isub, 1) := by decide +kernel
theorem d_X12_readsNumber_33 : decode cX12_readsNumber 33 = .ok (.iastore, 1) := by decide +kernel
theorem d_X12_readsNumber_34 : decode cX12_readsNumber 34 = .ok (.aload_n 0, 1) := by decide +kernel
theorem d_X12_readsNumber_35 : decode cX12_readsNumber 35 = .ok (.dup, 1) := by decide +kernel
theorem d_X12_readsNumber_36 : decode cX12_readsNumber 36 = .ok (.getfield 164, 3) := by decide +kernel
theorem d_X12_readsNumber_39 : decode cX12_readsNumber 39 = .ok (.iconst 1, 1) := by decide +kernel
theorem d_X12_readsNumber_40 : decode cX12_readsNumber 40 = .ok (.iadd, 1) := by decide +kernel
theorem d_X12_readsNumber_41 : decode cX12_readsNumber 41 = .ok (.putfield 164, 3) := by decide +kernel
theorem d_X12_readsNumber_44 : decode cX12_readsNumber 44 = .ok (.iconst 1, 1) := by decide +kernel
theorem d_X12_readsNumber_45 : decode cX12_readsNumber 45 = .ok (.ireturn, 1) := by decide +kernel
set_option maxHeartbeats 4000000 in
set_option maxRecDepth 100000 in
theorem t_X12_readsNumber {X : XT_x} {G : GT_g} {M : Mem_m} {z : (Mem_m × Int)} (C : Cx_ (K_X12_readsNumber) X G) (hR : Rx_ X G (some .boolean)) (x0 : Nat) (x1 : Int) (x2 : Int) (o_x1 : ok_i x1) (o_x2 : ok_i x2) (h : f_X12_readsNumber G.2.2.2 M x0 x1 x2 = some z) : V_ (K_X12_readsNumber) X G (Fq_ X G (Qi_ G z.1 z.2)) M 0 [(0, .ref (G.1 + x0)), (1, iv_i x1), (2, iv_i x2)] [] := by
  unfold f_X12_readsNumber at h
  refine V_aload_n (j := 0) C d_X12_readsNumber_0 rfl rfl ?_
  refine V_callVri (K' := K_X12_sign) (a := x0) (ci := 12) (av := []) (rest := []) yi_X12_sign (by decide) rfl C (yk_X12_sign) l1_X12_173 (by decide) d_X12_readsNumber_1 (fun v hv => ct_X12_sign x0 hv) rfl rfl (Nat.le_of_ble_eq_true rfl) h (fun v1 o1 h => ?_)
  refine V_i2l C d_X12_readsNumber_4 o1 ?_
  refine V_ldc2 (v := 48) C d_X12_readsNumber_5 cl_X12_176 ?_
  refine V_bipush (v := 48) C d_X12_readsNumber_8 rfl ?_
  refine V_iload_n (j := 2) C d_X12_readsNumber_10 rfl rfl ?_
  refine V_iadd C d_X12_readsNumber_11 ?_
  refine V_i2l C d_X12_readsNumber_12 (ok_wr _) ?_
  refine V_callSri (K' := K_X12_isIn) (av := [jv_i v1, jv_i 48, jv_i (wr_i (48 + x2))]) (rest := []) ys_X12_isIn C (yk_X12_isIn) l1_X12_69 (by decide) d_X12_readsNumber_13 (fun v hv => ct_X12_isIn v1 48 (wr_i (48 + x2)) o1 (okc rfl) (ok_wr _) hv) rfl rfl (Nat.le_of_ble_eq_true rfl) h (fun v2 o2 h => ?_)
  refine V_if_ne (tgt := 21) C d_X12_readsNumber_16 (by decide) o2 h (fun h => ?_) (fun h => ?_)
  · skip
    refine V_iconst C d_X12_readsNumber_19 ?_
    exact V_zret_w C hR d_X12_readsNumber_20 (Or.inl rfl) h
  · skip
    refine V_aload_n (j := 0) C d_X12_readsNumber_21 rfl rfl ?_
    refine V_getR C ck_12 fw_X12_43 d_X12_readsNumber_22 h (fun v3 h => ?_)
    refine V_iload_n (j := 1) C d_X12_readsNumber_25 rfl rfl ?_
    refine V_aload_n (j := 0) C d_X12_readsNumber_26 rfl rfl ?_
    refine V_callVri (K' := K_X12_sign) (a := x0) (ci := 12) (av := []) (rest := [iv_i x1, .ref (G.1 + v3)]) yi_X12_sign (by decide) rfl C (yk_X12_sign) l1_X12_173 (by decide) d_X12_readsNumber_27 (fun v hv => ct_X12_sign x0 hv) rfl rfl (Nat.le_of_ble_eq_true rfl) h (fun v4 o4 h => ?_)
    refine V_bipush (v := 48) C d_X12_readsNumber_30 rfl ?_
    refine V_isub C d_X12_readsNumber_32 ?_
    refine V_iast C d_X12_readsNumber_33 o_x1 (ok_wr _) h (fun M5 h => ?_)
    refine V_aload_n (j := 0) C d_X12_readsNumber_34 rfl rfl ?_
    refine V_dup C d_X12_readsNumber_35 rfl ?_
    refine V_getI C ck_12 fw_X12_164 d_X12_readsNumber_36 h (fun v6 o6 h => ?_)
    refine V_iconst C d_X12_readsNumber_39 ?_
    refine V_iadd C d_X12_readsNumber_40 ?_
    refine V_putI C ck_12 fw_X12_164 fp_12_14 d_X12_readsNumber_41 (ok_wr _) h (fun M7 h => ?_)
    refine V_iconst C d_X12_readsNumber_44 ?_
    exact V_zret_w C hR d_X12_readsNumber_45 (Or.inr rfl) h
set_option maxHeartbeats 4000000 in
set_option maxRecDepth 100000 in
theorem ct_X12_readsNumber {l : Launch} {G : GT_g} {M : Mem_m} (x0 : Nat) (x1 : Int) (x2 : Int) (o_x1 : ok_i x1) (o_x2 : ok_i x2) {z : (Mem_m × Int)} (h : f_X12_readsNumber G.2.2.2 M x0 x1 x2 = some z) : MI_ l yX12_readsNumber K_X12_readsNumber (some .boolean) G M [.ref (G.1 + x0), iv_i x1, iv_i x2] z.1 z.2 :=
  met_of (by decide +kernel) rfl (Nat.le_of_ble_eq_true rfl) (fun X hl C hR => by subst hl; exact t_X12_readsNumber C hR x0 x1 x2 o_x1 o_x2 h)
theorem d_X12_readsWhat_0 : decode cX12_readsWhat 0 = .ok (.aload_n 0, 1) := by decide +kernel
theorem d_X12_readsWhat_1 : decode cX12_readsWhat 1 = .ok (.getfield 43, 3) := by decide +kernel
theorem d_X12_readsWhat_4 : decode cX12_readsWhat 4 = .ok (.iconst 2, 1) := by decide +kernel
theorem d_X12_readsWhat_5 : decode cX12_readsWhat 5 = .ok (.iload_n 1, 1) := by decide +kernel
theorem d_X12_readsWhat_6 : decode cX12_readsWhat 6 = .ok (.imul, 1) := by decide +kernel
theorem d_X12_readsWhat_7 : decode cX12_readsWhat 7 = .ok (.iload_n 2, 1) := by decide +kernel
theorem d_X12_readsWhat_8 : decode cX12_readsWhat 8 = .ok (.ifCond .eq 16, 3) := by decide +kernel
theorem d_X12_readsWhat_11 : decode cX12_readsWhat 11 = .ok (.aload_n 0, 1) := by decide +kernel
theorem d_X12_readsWhat_12 : decode cX12_readsWhat 12 = .ok (.bipush 67, 2) := by decide +kernel
theorem d_X12_readsWhat_14 : decode cX12_readsWhat 14 = .ok (.invokevirtual 178, 3) := by decide +kernel
theorem d_X12_readsWhat_17 : decode cX12_readsWhat 17 = .ok (.ifCond .eq 7, 3) := by decide +kernel
theorem d_X12_readsWhat_20 : decode cX12_readsWhat 20 = .ok (.iconst 1, 1) := by decide +kernel
theorem d_X12_readsWhat_21 : decode cX12_readsWhat 21 = .ok (.goto 20, 3) := by decide +kernel
theorem d_X12_readsWhat_24 : decode cX12_readsWhat 24 = .ok (.iload_n 3, 1) := by decide +kernel
theorem d_X12_readsWhat_25 : decode cX12_readsWhat 25 = .ok (.ifCond .eq 15, 3) := by decide +kernel
theorem d_X12_readsWhat_28 : decode cX12_readsWhat 28 = .ok (.aload_n 0, 1) := by decide +kernel
theorem d_X12_readsWhat_29 : decode cX12_readsWhat 29 = .ok (.iload_n 3, 1) := by decide +kernel
theorem d_X12_readsWhat_30 : decode cX12_readsWhat 30 = .ok (.invokevirtual 178, 3) := by decide +kernel
theorem d_X12_readsWhat_33 : decode cX12_readsWhat 33 = .ok (.ifCond .eq 7, 3) := by decide +kernel
theorem d_X12_readsWhat_36 : decode cX12_readsWhat 36 = .ok (.iconst 2, 1) := by decide +kernel
theorem d_X12_readsWhat_37 : decode cX12_readsWhat 37 = .ok (.goto 4, 3) := by decide +kernel
theorem d_X12_readsWhat_40 : decode cX12_readsWhat 40 = .ok (.iconst 0, 1) := by decide +kernel
theorem d_X12_readsWhat_41 : decode cX12_readsWhat 41 = .ok (.iastore, 1) := by decide +kernel
theorem d_X12_readsWhat_42 : decode cX12_readsWhat 42 = .ok (.aload_n 0, 1) := by decide +kernel
theorem d_X12_readsWhat_43 : decode cX12_readsWhat 43 = .ok (.getfield 43, 3) := by decide +kernel
theorem d_X12_readsWhat_46 : decode cX12_readsWhat 46 = .ok (.iconst 2, 1) := by decide +kernel
theorem d_X12_readsWhat_47 : decode cX12_readsWhat 47 = .ok (.iload_n 1, 1) := by decide +kernel
theorem d_X12_readsWhat_48 : decode cX12_readsWhat 48 = .ok (.imul, 1) := by decide +kernel
theorem d_X12_readsWhat_49 : decode cX12_readsWhat 49 = .ok (.iaload, 1) := by decide +kernel
theorem d_X12_readsWhat_50 : decode cX12_readsWhat 50 = .ok (.iconst 2, 1) := by decide +kernel
theorem d_X12_readsWhat_51 : decode cX12_readsWhat 51 = .ok (.if_icmp .ne 5, 3) := by decide +kernel
theorem d_X12_readsWhat_54 : decode cX12_readsWhat 54 = .ok (.iconst 1, 1) := by decide +kernel
theorem d_X12_readsWhat_55 : decode cX12_readsWhat 55 = .ok (.ireturn, 1) := by decide +kernel
theorem d_X12_readsWhat_56 : decode cX12_readsWhat 56 = .ok (.aload_n 0, 1) := by decide +kernel
theorem d_X12_readsWhat_57 : decode cX12_readsWhat 57 = .ok (.iconst 2, 1) := by decide +kernel
theorem d_X12_readsWhat_58 : decode cX12_readsWhat 58 = .ok (.iload_n 1, 1) := by decide +kernel
theorem d_X12_readsWhat_59 : decode cX12_readsWhat 59 = .ok (.imul, 1) := by decide +kernel
theorem d_X12_readsWhat_60 : decode cX12_readsWhat 60 = .ok (.iconst 1, 1) := by decide +kernel
theorem d_X12_readsWhat_61 : decode cX12_readsWhat 61 = .ok (.iadd, 1) := by decide +kernel
theorem d_X12_readsWhat_62 : decode cX12_readsWhat 62 = .ok (.aload_n 0, 1) := by decide +kernel
theorem d_X12_readsWhat_63 : decode cX12_readsWhat 63 = .ok (.getfield 43, 3) := by decide +kernel
theorem d_X12_readsWhat_66 : decode cX12_readsWhat 66 = .ok (.iconst 2, 1) := by decide +kernel
theorem d_X12_readsWhat_67 : decode cX12_readsWhat 67 = .ok (.iload_n 1, 1) := by decide +kernel
theorem d_X12_readsWhat_68 : decode cX12_readsWhat 68 = .ok (.imul, 1) := by decide +kernel
theorem d_X12_readsWhat_69 : decode cX12_readsWhat 69 = .ok (.iaload, 1) := by decide +kernel
theorem d_X12_readsWhat_70 : decode cX12_readsWhat 70 = .ok (.iconst 1, 1) := by decide +kernel
theorem d_X12_readsWhat_71 : decode cX12_readsWhat 71 = .ok (.if_icmp .ne 7, 3) := by decide +kernel
theorem d_X12_readsWhat_74 : decode cX12_readsWhat 74 = .ok (.iconst 3, 1) := by decide +kernel
theorem d_X12_readsWhat_75 : decode cX12_readsWhat 75 = .ok (.goto 5, 3) := by decide +kernel
theorem d_X12_readsWhat_78 : decode cX12_readsWhat 78 = .ok (.bipush 9, 2) := by decide +kernel
theorem d_X12_readsWhat_80 : decode cX12_readsWhat 80 = .ok (.invokevirtual 181, 3) := by decide +kernel
theorem d_X12_readsWhat_83 : decode cX12_readsWhat 83 = .ok (.ireturn, 1) := by decide +kernel
set_option maxHeartbeats 4000000 in
set_option maxRecDepth 100000 in
theorem t_X12_readsWhat_80 {X : XT_x} {G : GT_g} {z : (Mem_m × Int)} (C : Cx_ (K_X12_readsWhat) X G) (hR : Rx_ X G (some .boolean)) (M : Mem_m) (s0 : Int) (s1 : Int) (s2 : Nat) (o_s0 : ok_i s0) (o_s1 : ok_i s1) (h : f_X12_readsWhat_80 G.2.2.2 M s0 s1 s2 = some z) : V_ (K_X12_readsWhat) X G (Fq_ X G (Qi_ G z.1 z.2)) M 80 [] [iv_i s0, iv_i s1, .ref (G.1 + s2)] := by
  unfold f_X12_readsWhat_80 at h
  refine V_callVwi (K' := K_X12_readsNumber) (a := s2) (ci := 12) (av := [iv_i s1, iv_i s0]) (rest := []) yi_X12_readsNumber (by decide) rfl C (yk_X12_readsNumber) l1_X12_181 (by decide) d_X12_readsWhat_80 (fun v hv => ct_X12_readsNumber s2 s1 s0 o_s1 o_s0 hv) rfl rfl (Nat.le_of_ble_eq_true rfl) h (fun z1 o1 h => ?_)
  obtain ⟨hz, h⟩ := ite_z h
  exact V_zret_w C hR d_X12_readsWhat_83 hz h
set_option maxHeartbeats 4000000 in
set_option maxRecDepth 100000 in
theorem t_X12_readsWhat_41 {X : XT_x} {G : GT_g} {z : (Mem_m × Int)} (C : Cx_ (K_X12_readsWhat) X G) (hR : Rx_ X G (some .boolean)) (M : Mem_m) (x0 : Nat) (x1 : Int) (s0 : Int) (s1 : Int) (s2 : Nat) (o_x1 : ok_i x1) (o_s0 : ok_i s0) (o_s1 : ok_i s1) (h : f_X12_readsWhat_41 G.2.2.2 M x0 x1 s0 s1 s2 = some z) : V_ (K_X12_readsWhat) X G (Fq_ X G (Qi_ G z.1 z.2)) M 41 [(0, .ref (G.1 + x0)), (1, iv_i x1)] [iv_i s0, iv_i s1, .ref (G.1 + s2)] := by
  unfold f_X12_readsWhat_41 at h
  refine V_iast C d_X12_readsWhat_41 o_s1 o_s0 h (fun M1 h => ?_)
  refine V_aload_n (j := 0) C d_X12_readsWhat_42 rfl rfl ?_
  refine V_getR C ck_12 fw_X12_43 d_X12_readsWhat_43 h (fun v2 h => ?_)
  refine V_iconst C d_X12_readsWhat_46 ?_
  refine V_iload_n (j := 1) C d_X12_readsWhat_47 rfl rfl ?_
  refine V_imul C d_X12_readsWhat_48 ?_
  refine V_iald C d_X12_readsWhat_49 (ok_wr _) h (fun v3 o3 h => ?_)
  refine V_iconst C d_X12_readsWhat_50 ?_
  refine V_icmp_ne (tgt := 56) C d_X12_readsWhat_51 (by decide) o3 (okc rfl) h (fun h => ?_) (fun h => ?_)
  · skip
    refine V_iconst C d_X12_readsWhat_54 ?_
    exact V_zret_w C hR d_X12_readsWhat_55 (Or.inr rfl) h
  · skip
    refine V_aload_n (j := 0) C d_X12_readsWhat_56 rfl rfl ?_
    refine V_iconst C d_X12_readsWhat_57 ?_
    refine V_iload_n (j := 1) C d_X12_readsWhat_58 rfl rfl ?_
    refine V_imul C d_X12_readsWhat_59 ?_
    refine V_iconst C d_X12_readsWhat_60 ?_
    refine V_iadd C d_X12_readsWhat_61 ?_
    refine V_aload_n (j := 0) C d_X12_readsWhat_62 rfl rfl ?_
    refine V_getR C ck_12 fw_X12_43 d_X12_readsWhat_63 h (fun v4 h => ?_)
    refine V_iconst C d_X12_readsWhat_66 ?_
    refine V_iload_n (j := 1) C d_X12_readsWhat_67 rfl rfl ?_
    refine V_imul C d_X12_readsWhat_68 ?_
    refine V_iald C d_X12_readsWhat_69 (ok_wr _) h (fun v5 o5 h => ?_)
    refine V_iconst C d_X12_readsWhat_70 ?_
    refine V_icmp_ne (tgt := 78) C d_X12_readsWhat_71 (by decide) o5 (okc rfl) h (fun h => ?_) (fun h => ?_)
    · skip
      refine V_iconst C d_X12_readsWhat_74 ?_
      refine V_goto (tgt := 80) C d_X12_readsWhat_75 (by decide) ?_
      refine V_lv [] rfl (t_X12_readsWhat_80 C hR M1 3 (wr_i ((wr_i (2 * x1)) + 1)) x0 (okc rfl) (ok_wr _) h)
    · skip
      refine V_bipush (v := 9) C d_X12_readsWhat_78 rfl ?_
      refine V_lv [] rfl (t_X12_readsWhat_80 C hR M1 9 (wr_i ((wr_i (2 * x1)) + 1)) x0 (okc rfl) (ok_wr _) h)
set_option maxHeartbeats 4000000 in
set_option maxRecDepth 100000 in
theorem t_X12_readsWhat_40 {X : XT_x} {G : GT_g} {z : (Mem_m × Int)} (C : Cx_ (K_X12_readsWhat) X G) (hR : Rx_ X G (some .boolean)) (M : Mem_m) (x0 : Nat) (x1 : Int) (s0 : Int) (s1 : Nat) (o_x1 : ok_i x1) (o_s0 : ok_i s0) (h : f_X12_readsWhat_40 G.2.2.2 M x0 x1 s0 s1 = some z) : V_ (K_X12_readsWhat) X G (Fq_ X G (Qi_ G z.1 z.2)) M 40 [(0, .ref (G.1 + x0)), (1, iv_i x1)] [iv_i s0, .ref (G.1 + s1)] := by
  unfold f_X12_readsWhat_40 at h
  refine V_iconst C d_X12_readsWhat_40 ?_
  refine V_lv [0, 1] rfl (t_X12_readsWhat_41 C hR M x0 x1 0 s0 s1 o_x1 (okc rfl) o_s0 h)
set_option maxHeartbeats 4000000 in
set_option maxRecDepth 100000 in
theorem t_X12_readsWhat_24 {X : XT_x} {G : GT_g} {z : (Mem_m × Int)} (C : Cx_ (K_X12_readsWhat) X G) (hR : Rx_ X G (some .boolean)) (M : Mem_m) (x0 : Nat) (x1 : Int) (x3 : Int) (s0 : Int) (s1 : Nat) (o_x1 : ok_i x1) (o_x3 : ok_i x3) (o_s0 : ok_i s0) (h : f_X12_readsWhat_24 G.2.2.2 M x0 x1 x3 s0 s1 = some z) : V_ (K_X12_readsWhat) X G (Fq_ X G (Qi_ G z.1 z.2)) M 24 [(0, .ref (G.1 + x0)), (1, iv_i x1), (3, iv_i x3)] [iv_i s0, .ref (G.1 + s1)] := by
  unfold f_X12_readsWhat_24 at h
  refine V_iload_n (j := 2) C d_X12_readsWhat_24 rfl rfl ?_
  refine V_if_eq (tgt := 40) C d_X12_readsWhat_25 (by decide) o_x3 h (fun h => ?_) (fun h => ?_)
  · skip
    refine V_lv [0, 1] rfl (t_X12_readsWhat_40 C hR M x0 x1 s0 s1 o_x1 o_s0 h)
  · skip
    refine V_aload_n (j := 0) C d_X12_readsWhat_28 rfl rfl ?_
    refine V_iload_n (j := 2) C d_X12_readsWhat_29 rfl rfl ?_
    refine V_callVwi (K' := K_X12_takes) (a := x0) (ci := 12) (av := [iv_i x3]) (rest := [iv_i s0, .ref (G.1 + s1)]) yi_X12_takes (by decide) rfl C (yk_X12_takes) l1_X12_178 (by decide) d_X12_readsWhat_30 (fun v hv => ct_X12_takes x0 x3 o_x3 hv) rfl rfl (Nat.le_of_ble_eq_true rfl) h (fun z1 o1 h => ?_)
    refine V_if_eq (tgt := 40) C d_X12_readsWhat_33 (by decide) o1 h (fun h => ?_) (fun h => ?_)
    · skip
      refine V_lv [0, 1] rfl (t_X12_readsWhat_40 C hR z1.1 x0 x1 s0 s1 o_x1 o_s0 h)
    · skip
      refine V_iconst C d_X12_readsWhat_36 ?_
      refine V_goto (tgt := 41) C d_X12_readsWhat_37 (by decide) ?_
      refine V_lv [0, 1] rfl (t_X12_readsWhat_41 C hR z1.1 x0 x1 2 s0 s1 o_x1 (okc rfl) o_s0 h)
set_option maxHeartbeats 4000000 in
set_option maxRecDepth 100000 in
theorem t_X12_readsWhat {X : XT_x} {G : GT_g} {M : Mem_m} {z : (Mem_m × Int)} (C : Cx_ (K_X12_readsWhat) X G) (hR : Rx_ X G (some .boolean)) (x0 : Nat) (x1 : Int) (x2 : Int) (x3 : Int) (o_x1 : ok_i x1) (o_x2 : ok_i x2) (o_x3 : ok_i x3) (h : f_X12_readsWhat G.2.2.2 M x0 x1 x2 x3 = some z) : V_ (K_X12_readsWhat) X G (Fq_ X G (Qi_ G z.1 z.2)) M 0 [(0, .ref (G.1 + x0)), (1, iv_i x1), (2, iv_i x2), (3, iv_i x3)] [] := by
  unfold f_X12_readsWhat at h
  refine V_aload_n (j := 0) C d_X12_readsWhat_0 rfl rfl ?_
  refine V_getR C ck_12 fw_X12_43 d_X12_readsWhat_1 h (fun v1 h => ?_)
  refine V_iconst C d_X12_readsWhat_4 ?_
  refine V_iload_n (j := 1) C d_X12_readsWhat_5 rfl rfl ?_
  refine V_imul C d_X12_readsWhat_6 ?_
  refine V_iload_n (j := 2) C d_X12_readsWhat_7 rfl rfl ?_
  refine V_if_eq (tgt := 24) C d_X12_readsWhat_8 (by decide) o_x2 h (fun h => ?_) (fun h => ?_)
  · skip
    refine V_lv [0, 1, 3] rfl (t_X12_readsWhat_24 C hR M x0 x1 x3 (wr_i (2 * x1)) v1 o_x1 o_x3 (ok_wr _) h)
  · skip
    refine V_aload_n (j := 0) C d_X12_readsWhat_11 rfl rfl ?_
    refine V_bipush (v := 67) C d_X12_readsWhat_12 rfl ?_
    refine V_callVwi (K' := K_X12_takes) (a := x0) (ci := 12) (av := [iv_i 67]) (rest := [iv_i (wr_i (2 * x1)), .ref (G.1 + v1)]) yi_X12_takes (by decide) rfl C (yk_X12_takes) l1_X12_178 (by decide) d_X12_readsWhat_14 (fun v hv => ct_X12_takes x0 67 (okc rfl) hv) rfl rfl (Nat.le_of_ble_eq_true rfl) h (fun z2 o2 h => ?_)
    refine V_if_eq (tgt := 24) C d_X12_readsWhat_17 (by decide) o2 h (fun h => ?_) (fun h => ?_)
    · skip
      refine V_lv [0, 1, 3] rfl (t_X12_readsWhat_24 C hR z2.1 x0 x1 x3 (wr_i (2 * x1)) v1 o_x1 o_x3 (ok_wr _) h)
    · skip
      refine V_iconst C d_X12_readsWhat_20 ?_
      refine V_goto (tgt := 41) C d_X12_readsWhat_21 (by decide) ?_
      refine V_lv [0, 1] rfl (t_X12_readsWhat_41 C hR z2.1 x0 x1 1 (wr_i (2 * x1)) v1 o_x1 (okc rfl) (ok_wr _) h)
set_option maxHeartbeats 4000000 in
set_option maxRecDepth 100000 in
theorem ct_X12_readsWhat {l : Launch} {G : GT_g} {M : Mem_m} (x0 : Nat) (x1 : Int) (x2 : Int) (x3 : Int) (o_x1 : ok_i x1) (o_x2 : ok_i x2) (o_x3 : ok_i x3) {z : (Mem_m × Int)} (h : f_X12_readsWhat G.2.2.2 M x0 x1 x2 x3 = some z) : MI_ l yX12_readsWhat K_X12_readsWhat (some .boolean) G M [.ref (G.1 + x0), iv_i x1, iv_i x2, iv_i x3] z.1 z.2 :=
  met_of (by decide +kernel) rfl (Nat.le_of_ble_eq_true rfl) (fun X hl C hR => by subst hl; exact t_X12_readsWhat C hR x0 x1 x2 x3 o_x1 o_x2 o_x3 h)
theorem d_X12_readsPlace_0 : decode cX12_readsPlace 0 = .ok (.aload_n 0, 1) := by decide +kernel
theorem d_X12_readsPlace_1 : decode cX12_readsPlace 1 = .ok (.bipush 46, 2) := by decide +kernel
theorem d_X12_readsPlace_3 : decode cX12_readsPlace 3 = .ok (.invokevirtual 178, 3) := by decide +kernel
theorem d_X12_readsPlace_6 : decode cX12_readsPlace 6 = .ok (.ifCond .eq 14, 3) := by decide +kernel
theorem d_X12_readsPlace_9 : decode cX12_readsPlace 9 = .ok (.aload_n 0, 1) := by decide +kernel
theorem d_X12_readsPlace_10 : decode cX12_readsPlace 10 = .ok (.getfield 43, 3) := by decide +kernel
theorem d_X12_readsPlace_13 : decode cX12_readsPlace 13 = .ok (.iconst 2, 1) := by decide +kernel
theorem d_X12_readsPlace_14 : decode cX12_readsPlace 14 = .ok (.iload_n 1, 1) := by decide +kernel
theorem d_X12_readsPlace_15 : decode cX12_readsPlace 15 = .ok (.imul, 1) := by decide +kernel
theorem d_X12_readsPlace_16 : decode cX12_readsPlace 16 = .ok (.iconst 3, 1) := by decide +kernel
theorem d_X12_readsPlace_17 : decode cX12_readsPlace 17 = .ok (.iastore, 1) := by decide +kernel
theorem d_X12_readsPlace_18 : decode cX12_readsPlace 18 = .ok (.iconst 1, 1) := by decide +kernel
theorem d_X12_readsPlace_19 : decode cX12_readsPlace 19 = .ok (.ireturn, 1) := by decide +kernel
theorem d_X12_readsPlace_20 : decode cX12_readsPlace 20 = .ok (.aload_n 0, 1) := by decide +kernel
theorem d_X12_readsPlace_21 : decode cX12_readsPlace 21 = .ok (.iload_n 1, 1) := by decide +kernel
theorem d_X12_readsPlace_22 : decode cX12_readsPlace 22 = .ok (.iconst 1, 1) := by decide +kernel
theorem d_X12_readsPlace_23 : decode cX12_readsPlace 23 = .ok (.bipush 35, 2) := by decide +kernel
theorem d_X12_readsPlace_25 : decode cX12_readsPlace 25 = .ok (.invokevirtual 184, 3) := by decide +kernel
theorem d_X12_readsPlace_28 : decode cX12_readsPlace 28 = .ok (.ireturn, 1) := by decide +kernel
set_option maxHeartbeats 4000000 in
set_option maxRecDepth 100000 in
theorem t_X12_readsPlace {X : XT_x} {G : GT_g} {M : Mem_m} {z : (Mem_m × Int)} (C : Cx_ (K_X12_readsPlace) X G) (hR : Rx_ X G (some .boolean)) (x0 : Nat) (x1 : Int) (o_x1 : ok_i x1) (h : f_X12_readsPlace G.2.2.2 M x0 x1 = some z) : V_ (K_X12_readsPlace) X G (Fq_ X G (Qi_ G z.1 z.2)) M 0 [(0, .ref (G.1 + x0)), (1, iv_i x1)] [] := by
  unfold f_X12_readsPlace at h
  refine V_aload_n (j := 0) C d_X12_readsPlace_0 rfl rfl ?_
  refine V_bipush (v := 46) C d_X12_readsPlace_1 rfl ?_
  refine V_callVwi (K' := K_X12_takes) (a := x0) (ci := 12) (av := [iv_i 46]) (rest := []) yi_X12_takes (by decide) rfl C (yk_X12_takes) l1_X12_178 (by decide) d_X12_readsPlace_3 (fun v hv => ct_X12_takes x0 46 (okc rfl) hv) rfl rfl (Nat.le_of_ble_eq_true rfl) h (fun z1 o1 h => ?_)
  refine V_if_eq (tgt := 20) C d_X12_readsPlace_6 (by decide) o1 h (fun h => ?_) (fun h => ?_)
  · skip
    refine V_aload_n (j := 0) C d_X12_readsPlace_20 rfl rfl ?_
    refine V_iload_n (j := 1) C d_X12_readsPlace_21 rfl rfl ?_
    refine V_iconst C d_X12_readsPlace_22 ?_
    refine V_bipush (v := 35) C d_X12_readsPlace_23 rfl ?_
    refine V_callVwi (K' := K_X12_readsWhat) (a := x0) (ci := 12) (av := [iv_i x1, iv_i 1, iv_i 35]) (rest := []) yi_X12_readsWhat (by decide) rfl C (yk_X12_readsWhat) l1_X12_184 (by decide) d_X12_readsPlace_25 (fun v hv => ct_X12_readsWhat x0 x1 1 35 o_x1 (okc rfl) (okc rfl) hv) rfl rfl (Nat.le_of_ble_eq_true rfl) h (fun z2 o2 h => ?_)
    obtain ⟨hz, h⟩ := ite_z h
    exact V_zret_w C hR d_X12_readsPlace_28 hz h
  · skip
    refine V_aload_n (j := 0) C d_X12_readsPlace_9 rfl rfl ?_
    refine V_getR C ck_12 fw_X12_43 d_X12_readsPlace_10 h (fun v3 h => ?_)
    refine V_iconst C d_X12_readsPlace_13 ?_
    refine V_iload_n (j := 1) C d_X12_readsPlace_14 rfl rfl ?_
    refine V_imul C d_X12_readsPlace_15 ?_
    refine V_iconst C d_X12_readsPlace_16 ?_
    refine V_iast C d_X12_readsPlace_17 (ok_wr _) (okc rfl) h (fun M4 h => ?_)
    refine V_iconst C d_X12_readsPlace_18 ?_
    exact V_zret_w C hR d_X12_readsPlace_19 (Or.inr rfl) h
set_option maxHeartbeats 4000000 in
set_option maxRecDepth 100000 in
theorem ct_X12_readsPlace {l : Launch} {G : GT_g} {M : Mem_m} (x0 : Nat) (x1 : Int) (o_x1 : ok_i x1) {z : (Mem_m × Int)} (h : f_X12_readsPlace G.2.2.2 M x0 x1 = some z) : MI_ l yX12_readsPlace K_X12_readsPlace (some .boolean) G M [.ref (G.1 + x0), iv_i x1] z.1 z.2 :=
  met_of (by decide +kernel) rfl (Nat.le_of_ble_eq_true rfl) (fun X hl C hR => by subst hl; exact t_X12_readsPlace C hR x0 x1 o_x1 h)
theorem d_X12_faultOf_0 : decode cX12_faultOf 0 = .ok (.aload_n 0, 1) := by decide +kernel
theorem d_X12_faultOf_1 : decode cX12_faultOf 1 = .ok (.bipush 80, 2) := by decide +kernel
theorem d_X12_faultOf_3 : decode cX12_faultOf 3 = .ok (.iload_n 1, 1) := by decide +kernel
theorem d_X12_faultOf_4 : decode cX12_faultOf 4 = .ok (.imul, 1) := by decide +kernel
theorem d_X12_faultOf_5 : decode cX12_faultOf 5 = .ok (.putfield 170, 3) := by decide +kernel
theorem d_X12_faultOf_8 : decode cX12_faultOf 8 = .ok (.aload_n 0, 1) := by decide +kernel
theorem d_X12_faultOf_9 : decode cX12_faultOf 9 = .ok (.aload_n 0, 1) := by decide +kernel
theorem d_X12_faultOf_10 : decode cX12_faultOf 10 = .ok (.getfield 22, 3) := by decide +kernel
theorem d_X12_faultOf_13 : decode cX12_faultOf 13 = .ok (.iload_n 1, 1) := by decide +kernel
theorem d_X12_faultOf_14 : decode cX12_faultOf 14 = .ok (.iaload, 1) := by decide +kernel
theorem d_X12_faultOf_15 : decode cX12_faultOf 15 = .ok (.putfield 167, 3) := by decide +kernel
theorem d_X12_faultOf_18 : decode cX12_faultOf 18 = .ok (.aload_n 0, 1) := by decide +kernel
theorem d_X12_faultOf_19 : decode cX12_faultOf 19 = .ok (.iconst 0, 1) := by decide +kernel
theorem d_X12_faultOf_20 : decode cX12_faultOf 20 = .ok (.putfield 164, 3) := by decide +kernel
theorem d_X12_faultOf_23 : decode cX12_faultOf 23 = .ok (.aload_n 0, 1) := by decide +kernel
theorem d_X12_faultOf_24 : decode cX12_faultOf 24 = .ok (.iconst 0, 1) := by decide +kernel
theorem d_X12_faultOf_25 : decode cX12_faultOf 25 = .ok (.iconst 1, 1) := by decide +kernel
theorem d_X12_faultOf_26 : decode cX12_faultOf 26 = .ok (.iconst 0, 1) := by decide +kernel
theorem d_X12_faultOf_27 : decode cX12_faultOf 27 = .ok (.invokevirtual 184, 3) := by decide +kernel
theorem d_X12_faultOf_30 : decode cX12_faultOf 30 = .ok (.ifCond .eq 61, 3) := by decide +kernel
theorem d_X12_faultOf_33 : decode cX12_faultOf 33 = .ok (.aload_n 0, 1) := by decide +kernel
theorem d_X12_faultOf_34 : decode cX12_faultOf 34 = .ok (.bipush 62, 2) := by decide +kernel
theorem d_X12_faultOf_36 : decode cX12_faultOf 36 = .ok (.invokevirtual 178, 3) := by decide +kernel
theorem d_X12_faultOf_39 : decode cX12_faultOf 39 = .ok (.ifCond .eq 52, 3) := by decide +kernel
theorem d_X12_faultOf_42 : decode cX12_faultOf 42 = .ok (.aload_n 0, 1) := by decide +kernel
theorem d_X12_faultOf_43 : decode cX12_faultOf 43 = .ok (.iconst 1, 1) := by decide +kernel
theorem d_X12_faultOf_44 : decode cX12_faultOf 44 = .ok (.iconst 0, 1) := by decide +kernel
theorem d_X12_faultOf_45 : decode cX12_faultOf 45 = .ok (.bipush 45, 2) := by decide +kernel
theorem d_X12_faultOf_47 : decode cX12_faultOf 47 = .ok (.invokevirtual 184, 3) := by decide +kernel
theorem d_X12_faultOf_50 : decode cX12_faultOf 50 = .ok (.ifCond .eq 41, 3) := by decide +kernel
theorem d_X12_faultOf_53 : decode cX12_faultOf 53 = .ok (.aload_n 0, 1) := by decide +kernel
theorem d_X12_faultOf_54 : decode cX12_faultOf 54 = .ok (.bipush 47, 2) := by decide +kernel
theorem d_X12_faultOf_56 : decode cX12_faultOf 56 = .ok (.invokevirtual 178, 3) := by decide +kernel
theorem d_X12_faultOf_59 : decode cX12_faultOf 59 = .ok (.ifCond .eq 32, 3) := by decide +kernel
theorem d_X12_faultOf_62 : decode cX12_faultOf 62 = .ok (.aload_n 0, 1) := by decide +kernel
theorem d_X12_faultOf_63 : decode cX12_faultOf 63 = .ok (.iconst 2, 1) := by decide +kernel
theorem d_X12_faultOf_64 : decode cX12_faultOf 64 = .ok (.invokevirtual 188, 3) := by decide +kernel
theorem d_X12_faultOf_67 : decode cX12_faultOf 67 = .ok (.ifCond .eq 24, 3) := by decide +kernel
theorem d_X12_faultOf_70 : decode cX12_faultOf 70 = .ok (.aload_n 0, 1) := by decide +kernel
theorem d_X12_faultOf_71 : decode cX12_faultOf 71 = .ok (.bipush 95, 2) := by decide +kernel
theorem d_X12_faultOf_73 : decode cX12_faultOf 73 = .ok (.invokevirtual 178, 3) := by decide +kernel
theorem d_X12_faultOf_76 : decode cX12_faultOf 76 = .ok (.ifCond .eq 15, 3) := by decide +kernel
theorem d_X12_faultOf_79 : decode cX12_faultOf 79 = .ok (.aload_n 0, 1) := by decide +kernel
theorem d_X12_faultOf_80 : decode cX12_faultOf 80 = .ok (.iconst 3, 1) := by decide +kernel
theorem d_X12_faultOf_81 : decode cX12_faultOf 81 = .ok (.invokevirtual 188, 3) := by decide +kernel
theorem d_X12_faultOf_84 : decode cX12_faultOf 84 = .ok (.ifCond .eq 7, 3) := by decide +kernel
theorem d_X12_faultOf_87 : decode cX12_faultOf 87 = .ok (.iconst 1, 1) := by decide +kernel
theorem d_X12_faultOf_88 : decode cX12_faultOf 88 = .ok (.goto 4, 3) := by decide +kernel
theorem d_X12_faultOf_91 : decode cX12_faultOf 91 = .ok (.iconst 0, 1) := by decide +kernel
theorem d_X12_faultOf_92 : decode cX12_faultOf 92 = .ok (.istore_n 2, 1) := by decide +kernel
theorem d_X12_faultOf_93 : decode cX12_faultOf 93 = .ok (.iload_n 2, 1) := by decide +kernel
theorem d_X12_faultOf_94 : decode cX12_faultOf 94 = .ok (.ifCond .eq 19, 3) := by decide +kernel
theorem d_X12_faultOf_97 : decode cX12_faultOf 97 = .ok (.aload_n 0, 1) := by decide +kernel
theorem d_X12_faultOf_98 : decode cX12_faultOf 98 = .ok (.getfield 164, 3) := by decide +kernel
theorem d_X12_faultOf_101 : decode cX12_faultOf 101 = .ok (.aload_n 0, 1) := by decide +kernel
theorem d_X12_faultOf_102 : decode cX12_faultOf 102 = .ok (.getfield 167, 3) := by decide +kernel
theorem d_X12_faultOf_105 : decode cX12_faultOf 105 = .ok (.if_icmp .ne 8, 3) := by decide +kernel
theorem d_X12_faultOf_108 : decode cX12_faultOf 108 = .ok (.bipush (-4), 2) := by decide +kernel
theorem d_X12_faultOf_110 : decode cX12_faultOf 110 = .ok (.goto 7, 3) := by decide +kernel
theorem d_X12_faultOf_113 : decode cX12_faultOf 113 = .ok (.aload_n 0, 1) := by decide +kernel
theorem d_X12_faultOf_114 : decode cX12_faultOf 114 = .ok (.getfield 164, 3) := by decide +kernel
theorem d_X12_faultOf_117 : decode cX12_faultOf 117 = .ok (.ireturn, 1) := by decide +kernel
set_option maxHeartbeats 4000000 in
set_option maxRecDepth 100000 in
theorem t_X12_faultOf_92 {X : XT_x} {G : GT_g} {z : (Mem_m × Int)} (C : Cx_ (K_X12_faultOf) X G) (hR : Rx_ X G (some .int)) (M : Mem_m) (x0 : Nat) (s0 : Int) (o_s0 : ok_i s0) (h : f_X12_faultOf_92 G.2.2.2 M x0 s0 = some z) : V_ (K_X12_faultOf) X G (Fq_ X G (Qi_ G z.1 z.2)) M 92 [(0, .ref (G.1 + x0))] [iv_i s0] := by
  unfold f_X12_faultOf_92 at h
  refine V_istore_n (lv' := [(2, iv_i s0), (0, .ref (G.1 + x0))]) C d_X12_faultOf_92 rfl (by decide) rfl ?_
  refine V_iload_n (j := 0) C d_X12_faultOf_93 rfl rfl ?_
  refine V_if_eq (tgt := 113) C d_X12_faultOf_94 (by decide) o_s0 h (fun h => ?_) (fun h => ?_)
  · skip
    refine V_aload_n (j := 1) C d_X12_faultOf_113 rfl rfl ?_
    refine V_getI C ck_12 fw_X12_164 d_X12_faultOf_114 h (fun v1 o1 h => ?_)
    exact V_iret_w C hR d_X12_faultOf_117 o1 h
  · skip
    refine V_aload_n (j := 1) C d_X12_faultOf_97 rfl rfl ?_
    refine V_getI C ck_12 fw_X12_164 d_X12_faultOf_98 h (fun v2 o2 h => ?_)
    refine V_aload_n (j := 1) C d_X12_faultOf_101 rfl rfl ?_
    refine V_getI C ck_12 fw_X12_167 d_X12_faultOf_102 h (fun v3 o3 h => ?_)
    refine V_icmp_ne (tgt := 113) C d_X12_faultOf_105 (by decide) o2 o3 h (fun h => ?_) (fun h => ?_)
    · skip
      refine V_bipush (v := (-4)) C d_X12_faultOf_108 rfl ?_
      refine V_goto (tgt := 117) C d_X12_faultOf_110 (by decide) ?_
      exact V_iret_w C hR d_X12_faultOf_117 (okc rfl) h
    · skip
      refine V_aload_n (j := 1) C d_X12_faultOf_113 rfl rfl ?_
      refine V_getI C ck_12 fw_X12_164 d_X12_faultOf_114 h (fun v4 o4 h => ?_)
      exact V_iret_w C hR d_X12_faultOf_117 o4 h
set_option maxHeartbeats 4000000 in
set_option maxRecDepth 100000 in
theorem t_X12_faultOf_91 {X : XT_x} {G : GT_g} {z : (Mem_m × Int)} (C : Cx_ (K_X12_faultOf) X G) (hR : Rx_ X G (some .int)) (M : Mem_m) (x0 : Nat) (h : f_X12_faultOf_91 G.2.2.2 M x0 = some z) : V_ (K_X12_faultOf) X G (Fq_ X G (Qi_ G z.1 z.2)) M 91 [(0, .ref (G.1 + x0))] [] := by
  unfold f_X12_faultOf_91 at h
  refine V_iconst C d_X12_faultOf_91 ?_
  refine V_lv [0] rfl (t_X12_faultOf_92 C hR M x0 0 (okc rfl) h)
set_option maxHeartbeats 4000000 in
set_option maxRecDepth 100000 in
theorem t_X12_faultOf {X : XT_x} {G : GT_g} {M : Mem_m} {z : (Mem_m × Int)} (C : Cx_ (K_X12_faultOf) X G) (hR : Rx_ X G (some .int)) (x0 : Nat) (x1 : Int) (o_x1 : ok_i x1) (h : f_X12_faultOf G.2.2.2 M x0 x1 = some z) : V_ (K_X12_faultOf) X G (Fq_ X G (Qi_ G z.1 z.2)) M 0 [(0, .ref (G.1 + x0)), (1, iv_i x1)] [] := by
  unfold f_X12_faultOf at h
  refine V_aload_n (j := 0) C d_X12_faultOf_0 rfl rfl ?_
  refine V_bipush (v := 80) C d_X12_faultOf_1 rfl ?_
  refine V_iload_n (j := 1) C d_X12_faultOf_3 rfl rfl ?_
  refine V_imul C d_X12_faultOf_4 ?_
  refine V_putI C ck_12 fw_X12_170 fp_12_15 d_X12_faultOf_5 (ok_wr _) h (fun M1 h => ?_)
  refine V_aload_n (j := 0) C d_X12_faultOf_8 rfl rfl ?_
  refine V_aload_n (j := 0) C d_X12_faultOf_9 rfl rfl ?_
  refine V_getR C ck_12 fw_X12_22 d_X12_faultOf_10 h (fun v2 h => ?_)
  refine V_iload_n (j := 1) C d_X12_faultOf_13 rfl rfl ?_
  refine V_iald C d_X12_faultOf_14 o_x1 h (fun v3 o3 h => ?_)
  refine V_putI C ck_12 fw_X12_167 fp_12_16 d_X12_faultOf_15 o3 h (fun M4 h => ?_)
  refine V_aload_n (j := 0) C d_X12_faultOf_18 rfl rfl ?_
  refine V_iconst C d_X12_faultOf_19 ?_
  refine V_putI C ck_12 fw_X12_164 fp_12_14 d_X12_faultOf_20 (okc rfl) h (fun M5 h => ?_)
  refine V_aload_n (j := 0) C d_X12_faultOf_23 rfl rfl ?_
  refine V_iconst C d_X12_faultOf_24 ?_
  refine V_iconst C d_X12_faultOf_25 ?_
  refine V_iconst C d_X12_faultOf_26 ?_
  refine V_callVwi (K' := K_X12_readsWhat) (a := x0) (ci := 12) (av := [iv_i 0, iv_i 1, iv_i 0]) (rest := []) yi_X12_readsWhat (by decide) rfl C (yk_X12_readsWhat) l1_X12_184 (by decide) d_X12_faultOf_27 (fun v hv => ct_X12_readsWhat x0 0 1 0 (okc rfl) (okc rfl) (okc rfl) hv) rfl rfl (Nat.le_of_ble_eq_true rfl) h (fun z6 o6 h => ?_)
  refine V_if_eq (tgt := 91) C d_X12_faultOf_30 (by decide) o6 h (fun h => ?_) (fun h => ?_)
  · skip
    refine V_lv [0] rfl (t_X12_faultOf_91 C hR z6.1 x0 h)
  · skip
    refine V_aload_n (j := 0) C d_X12_faultOf_33 rfl rfl ?_
    refine V_bipush (v := 62) C d_X12_faultOf_34 rfl ?_
    refine V_callVwi (K' := K_X12_takes) (a := x0) (ci := 12) (av := [iv_i 62]) (rest := []) yi_X12_takes (by decide) rfl C (yk_X12_takes) l1_X12_178 (by decide) d_X12_faultOf_36 (fun v hv => ct_X12_takes x0 62 (okc rfl) hv) rfl rfl (Nat.le_of_ble_eq_true rfl) h (fun z7 o7 h => ?_)
    refine V_if_eq (tgt := 91) C d_X12_faultOf_39 (by decide) o7 h (fun h => ?_) (fun h => ?_)
    · skip
      refine V_lv [0] rfl (t_X12_faultOf_91 C hR z7.1 x0 h)
    · skip
      refine V_aload_n (j := 0) C d_X12_faultOf_42 rfl rfl ?_
      refine V_iconst C d_X12_faultOf_43 ?_
      refine V_iconst C d_X12_faultOf_44 ?_
      refine V_bipush (v := 45) C d_X12_faultOf_45 rfl ?_
      refine V_callVwi (K' := K_X12_readsWhat) (a := x0) (ci := 12) (av := [iv_i 1, iv_i 0, iv_i 45]) (rest := []) yi_X12_readsWhat (by decide) rfl C (yk_X12_readsWhat) l1_X12_184 (by decide) d_X12_faultOf_47 (fun v hv => ct_X12_readsWhat x0 1 0 45 (okc rfl) (okc rfl) (okc rfl) hv) rfl rfl (Nat.le_of_ble_eq_true rfl) h (fun z8 o8 h => ?_)
      refine V_if_eq (tgt := 91) C d_X12_faultOf_50 (by decide) o8 h (fun h => ?_) (fun h => ?_)
      · skip
        refine V_lv [0] rfl (t_X12_faultOf_91 C hR z8.1 x0 h)
      · skip
        refine V_aload_n (j := 0) C d_X12_faultOf_53 rfl rfl ?_
        refine V_bipush (v := 47) C d_X12_faultOf_54 rfl ?_
        refine V_callVwi (K' := K_X12_takes) (a := x0) (ci := 12) (av := [iv_i 47]) (rest := []) yi_X12_takes (by decide) rfl C (yk_X12_takes) l1_X12_178 (by decide) d_X12_faultOf_56 (fun v hv => ct_X12_takes x0 47 (okc rfl) hv) rfl rfl (Nat.le_of_ble_eq_true rfl) h (fun z9 o9 h => ?_)
        refine V_if_eq (tgt := 91) C d_X12_faultOf_59 (by decide) o9 h (fun h => ?_) (fun h => ?_)
        · skip
          refine V_lv [0] rfl (t_X12_faultOf_91 C hR z9.1 x0 h)
        · skip
          refine V_aload_n (j := 0) C d_X12_faultOf_62 rfl rfl ?_
          refine V_iconst C d_X12_faultOf_63 ?_
          refine V_callVwi (K' := K_X12_readsPlace) (a := x0) (ci := 12) (av := [iv_i 2]) (rest := []) yi_X12_readsPlace (by decide) rfl C (yk_X12_readsPlace) l1_X12_188 (by decide) d_X12_faultOf_64 (fun v hv => ct_X12_readsPlace x0 2 (okc rfl) hv) rfl rfl (Nat.le_of_ble_eq_true rfl) h (fun z10 o10 h => ?_)
          refine V_if_eq (tgt := 91) C d_X12_faultOf_67 (by decide) o10 h (fun h => ?_) (fun h => ?_)
          · skip
            refine V_lv [0] rfl (t_X12_faultOf_91 C hR z10.1 x0 h)
          · skip
            refine V_aload_n (j := 0) C d_X12_faultOf_70 rfl rfl ?_
            refine V_bipush (v := 95) C d_X12_faultOf_71 rfl ?_
            refine V_callVwi (K' := K_X12_takes) (a := x0) (ci := 12) (av := [iv_i 95]) (rest := []) yi_X12_takes (by decide) rfl C (yk_X12_takes) l1_X12_178 (by decide) d_X12_faultOf_73 (fun v hv => ct_X12_takes x0 95 (okc rfl) hv) rfl rfl (Nat.le_of_ble_eq_true rfl) h (fun z11 o11 h => ?_)
            refine V_if_eq (tgt := 91) C d_X12_faultOf_76 (by decide) o11 h (fun h => ?_) (fun h => ?_)
            · skip
              refine V_lv [0] rfl (t_X12_faultOf_91 C hR z11.1 x0 h)
            · skip
              refine V_aload_n (j := 0) C d_X12_faultOf_79 rfl rfl ?_
              refine V_iconst C d_X12_faultOf_80 ?_
              refine V_callVwi (K' := K_X12_readsPlace) (a := x0) (ci := 12) (av := [iv_i 3]) (rest := []) yi_X12_readsPlace (by decide) rfl C (yk_X12_readsPlace) l1_X12_188 (by decide) d_X12_faultOf_81 (fun v hv => ct_X12_readsPlace x0 3 (okc rfl) hv) rfl rfl (Nat.le_of_ble_eq_true rfl) h (fun z12 o12 h => ?_)
              refine V_if_eq (tgt := 91) C d_X12_faultOf_84 (by decide) o12 h (fun h => ?_) (fun h => ?_)
              · skip
                refine V_lv [0] rfl (t_X12_faultOf_91 C hR z12.1 x0 h)
              · skip
                refine V_iconst C d_X12_faultOf_87 ?_
                refine V_goto (tgt := 92) C d_X12_faultOf_88 (by decide) ?_
                refine V_lv [0] rfl (t_X12_faultOf_92 C hR z12.1 x0 1 (okc rfl) h)
set_option maxHeartbeats 4000000 in
set_option maxRecDepth 100000 in
theorem ct_X12_faultOf {l : Launch} {G : GT_g} {M : Mem_m} (x0 : Nat) (x1 : Int) (o_x1 : ok_i x1) {z : (Mem_m × Int)} (h : f_X12_faultOf G.2.2.2 M x0 x1 = some z) : MI_ l yX12_faultOf K_X12_faultOf (some .int) G M [.ref (G.1 + x0), iv_i x1] z.1 z.2 :=
  met_of (by decide +kernel) rfl (Nat.le_of_ble_eq_true rfl) (fun X hl C hR => by subst hl; exact t_X12_faultOf C hR x0 x1 o_x1 h)
theorem d_X12_fault_0 : decode cX12_fault 0 = .ok (.aload_n 0, 1) := by decide +kernel
theorem d_X12_fault_1 : decode cX12_fault 1 = .ok (.iload_n 1, 1) := by decide +kernel
theorem d_X12_fault_2 : decode cX12_fault 2 = .ok (.iconst 0, 1) := by decide +kernel
theorem d_X12_fault_3 : decode cX12_fault 3 = .ok (.invokevirtual 79, 3) := by decide +kernel
theorem d_X12_fault_6 : decode cX12_fault 6 = .ok (.istore_n 2, 1) := by decide +kernel
theorem d_X12_fault_7 : decode cX12_fault 7 = .ok (.iload_n 2, 1) := by decide +kernel
theorem d_X12_fault_8 : decode cX12_fault 8 = .ok (.ifCond .eq 7, 3) := by decide +kernel
theorem d_X12_fault_11 : decode cX12_fault 11 = .ok (.iload_n 2, 1) := by decide +kernel
theorem d_X12_fault_12 : decode cX12_fault 12 = .ok (.goto 8, 3) := by decide +kernel
theorem d_X12_fault_15 : decode cX12_fault 15 = .ok (.aload_n 0, 1) := by decide +kernel
theorem d_X12_fault_16 : decode cX12_fault 16 = .ok (.iload_n 1, 1) := by decide +kernel
theorem d_X12_fault_17 : decode cX12_fault 17 = .ok (.invokevirtual 191, 3) := by decide +kernel
theorem d_X12_fault_20 : decode cX12_fault 20 = .ok (.ireturn, 1) := by decide +kernel
set_option maxHeartbeats 4000000 in
set_option maxRecDepth 100000 in
theorem t_X12_fault {X : XT_x} {G : GT_g} {M : Mem_m} {z : (Mem_m × Int)} (C : Cx_ (K_X12_fault) X G) (hR : Rx_ X G (some .int)) (x0 : Nat) (x1 : Int) (o_x1 : ok_i x1) (h : f_X12_fault G.2.2.2 M x0 x1 = some z) : V_ (K_X12_fault) X G (Fq_ X G (Qi_ G z.1 z.2)) M 0 [(0, .ref (G.1 + x0)), (1, iv_i x1)] [] := by
  unfold f_X12_fault at h
  refine V_aload_n (j := 0) C d_X12_fault_0 rfl rfl ?_
  refine V_iload_n (j := 1) C d_X12_fault_1 rfl rfl ?_
  refine V_iconst C d_X12_fault_2 ?_
  refine V_callVri (K' := K_X12_wrongRow) (a := x0) (ci := 12) (av := [iv_i x1, iv_i 0]) (rest := []) yi_X12_wrongRow (by decide) rfl C (yk_X12_wrongRow) l1_X12_79 (by decide) d_X12_fault_3 (fun v hv => ct_X12_wrongRow x0 x1 0 o_x1 (okc rfl) hv) rfl rfl (Nat.le_of_ble_eq_true rfl) h (fun v1 o1 h => ?_)
  refine V_istore_n (lv' := [(2, iv_i v1), (0, .ref (G.1 + x0)), (1, iv_i x1)]) C d_X12_fault_6 rfl (by decide) rfl ?_
  refine V_iload_n (j := 0) C d_X12_fault_7 rfl rfl ?_
  refine V_if_eq (tgt := 15) C d_X12_fault_8 (by decide) o1 h (fun h => ?_) (fun h => ?_)
  · skip
    refine V_aload_n (j := 1) C d_X12_fault_15 rfl rfl ?_
    refine V_iload_n (j := 2) C d_X12_fault_16 rfl rfl ?_
    refine V_callVwi (K' := K_X12_faultOf) (a := x0) (ci := 12) (av := [iv_i x1]) (rest := []) yi_X12_faultOf (by decide) rfl C (yk_X12_faultOf) l1_X12_191 (by decide) d_X12_fault_17 (fun v hv => ct_X12_faultOf x0 x1 o_x1 hv) rfl rfl (Nat.le_of_ble_eq_true rfl) h (fun z2 o2 h => ?_)
    exact V_iret_w C hR d_X12_fault_20 o2 h
  · skip
    refine V_iload_n (j := 0) C d_X12_fault_11 rfl rfl ?_
    refine V_goto (tgt := 20) C d_X12_fault_12 (by decide) ?_
    exact V_iret_w C hR d_X12_fault_20 o1 h
set_option maxHeartbeats 4000000 in
set_option maxRecDepth 100000 in
theorem ct_X12_fault {l : Launch} {G : GT_g} {M : Mem_m} (x0 : Nat) (x1 : Int) (o_x1 : ok_i x1) {z : (Mem_m × Int)} (h : f_X12_fault G.2.2.2 M x0 x1 = some z) : MI_ l yX12_fault K_X12_fault (some .int) G M [.ref (G.1 + x0), iv_i x1] z.1 z.2 :=
  met_of (by decide +kernel) rfl (Nat.le_of_ble_eq_true rfl) (fun X hl C hR => by subst hl; exact t_X12_fault C hR x0 x1 o_x1 h)
theorem d_X12_rule_0 : decode cX12_rule 0 = .ok (.iload_n 1, 1) := by decide +kernel
theorem d_X12_rule_1 : decode cX12_rule 1 = .ok (.invokestatic 75, 3) := by decide +kernel
theorem d_X12_rule_4 : decode cX12_rule 4 = .ok (.ifCond .ne 5, 3) := by decide +kernel
theorem d_X12_rule_7 : decode cX12_rule 7 = .ok (.iconst (-1), 1) := by decide +kernel
theorem d_X12_rule_8 : decode cX12_rule 8 = .ok (.ireturn, 1) := by decide +kernel
theorem d_X12_rule_9 : decode cX12_rule 9 = .ok (.aload_n 0, 1) := by decide +kernel
theorem d_X12_rule_10 : decode cX12_rule 10 = .ok (.getfield 9, 3) := by decide +kernel
theorem d_X12_rule_13 : decode cX12_rule 13 = .ok (.sipush 1064, 3) := by decide +kernel
theorem d_X12_rule_16 : decode cX12_rule 16 = .ok (.iaload, 1) := by decide +kernel
theorem d_X12_rule_17 : decode cX12_rule 17 = .ok (.bipush 8, 2) := by decide +kernel
theorem d_X12_rule_19 : decode cX12_rule 19 = .ok (.if_icmp .ne 6, 3) := by decide +kernel
theorem d_X12_rule_22 : decode cX12_rule 22 = .ok (.bipush (-2), 2) := by decide +kernel
theorem d_X12_rule_24 : decode cX12_rule 24 = .ok (.ireturn, 1) := by decide +kernel
theorem d_X12_rule_25 : decode cX12_rule 25 = .ok (.aload_n 0, 1) := by decide +kernel
theorem d_X12_rule_26 : decode cX12_rule 26 = .ok (.iload_n 1, 1) := by decide +kernel
theorem d_X12_rule_27 : decode cX12_rule 27 = .ok (.iconst 0, 1) := by decide +kernel
theorem d_X12_rule_28 : decode cX12_rule 28 = .ok (.invokevirtual 79, 3) := by decide +kernel
theorem d_X12_rule_31 : decode cX12_rule 31 = .ok (.istore_n 2, 1) := by decide +kernel
theorem d_X12_rule_32 : decode cX12_rule 32 = .ok (.iload_n 2, 1) := by decide +kernel
theorem d_X12_rule_33 : decode cX12_rule 33 = .ok (.ifCond .eq 5, 3) := by decide +kernel
theorem d_X12_rule_36 : decode cX12_rule 36 = .ok (.iload_n 2, 1) := by decide +kernel
theorem d_X12_rule_37 : decode cX12_rule 37 = .ok (.ireturn, 1) := by decide +kernel
theorem d_X12_rule_38 : decode cX12_rule 38 = .ok (.aload_n 0, 1) := by decide +kernel
theorem d_X12_rule_39 : decode cX12_rule 39 = .ok (.iload_n 1, 1) := by decide +kernel
theorem d_X12_rule_40 : decode cX12_rule 40 = .ok (.invokevirtual 191, 3) := by decide +kernel
theorem d_X12_rule_43 : decode cX12_rule 43 = .ok (.istore_n 3, 1) := by decide +kernel
theorem d_X12_rule_44 : decode cX12_rule 44 = .ok (.iload_n 3, 1) := by decide +kernel
theorem d_X12_rule_45 : decode cX12_rule 45 = .ok (.bipush (-4), 2) := by decide +kernel
theorem d_X12_rule_47 : decode cX12_rule 47 = .ok (.if_icmp .eq 8, 3) := by decide +kernel
theorem d_X12_rule_50 : decode cX12_rule 50 = .ok (.bipush (-100), 2) := by decide +kernel
theorem d_X12_rule_52 : decode cX12_rule 52 = .ok (.iload_n 3, 1) := by decide +kernel
theorem d_X12_rule_53 : decode cX12_rule 53 = .ok (.isub, 1) := by decide +kernel
theorem d_X12_rule_54 : decode cX12_rule 54 = .ok (.ireturn, 1) := by decide +kernel
theorem d_X12_rule_55 : decode cX12_rule 55 = .ok (.iconst 0, 1) := by decide +kernel
theorem d_X12_rule_56 : decode cX12_rule 56 = .ok (.istore 4, 2) := by decide +kernel
theorem d_X12_rule_58 : decode cX12_rule 58 = .ok (.iload 4, 2) := by decide +kernel
theorem d_X12_rule_60 : decode cX12_rule 60 = .ok (.bipush 8, 2) := by decide +kernel
theorem d_X12_rule_62 : decode cX12_rule 62 = .ok (.if_icmp .ge 39, 3) := by decide +kernel
theorem d_X12_rule_65 : decode cX12_rule 65 = .ok (.aload_n 0, 1) := by decide +kernel
theorem d_X12_rule_66 : decode cX12_rule 66 = .ok (.getfield 9, 3) := by decide +kernel
theorem d_X12_rule_69 : decode cX12_rule 69 = .ok (.sipush 712, 3) := by decide +kernel
theorem d_X12_rule_72 : decode cX12_rule 72 = .ok (.bipush 8, 2) := by decide +kernel
theorem d_X12_rule_74 : decode cX12_rule 74 = .ok (.aload_n 0, 1) := by decide +kernel
theorem d_X12_rule_75 : decode cX12_rule 75 = .ok (.getfield 9, 3) := by decide +kernel
theorem d_X12_rule_78 : decode cX12_rule 78 = .ok (.sipush 1064, 3) := by decide +kernel
theorem d_X12_rule_81 : decode cX12_rule 81 = .ok (.iaload, 1) := by decide +kernel
theorem d_X12_rule_82 : decode cX12_rule 82 = .ok (.imul, 1) := by decide +kernel
theorem d_X12_rule_83 : decode cX12_rule 83 = .ok (.iadd, 1) := by decide +kernel
theorem d_X12_rule_84 : decode cX12_rule 84 = .ok (.iload 4, 2) := by decide +kernel
theorem d_X12_rule_86 : decode cX12_rule 86 = .ok (.iadd, 1) := by decide +kernel
theorem d_X12_rule_87 : decode cX12_rule 87 = .ok (.aload_n 0, 1) := by decide +kernel
theorem d_X12_rule_88 : decode cX12_rule 88 = .ok (.getfield 43, 3) := by decide +kernel
theorem d_X12_rule_91 : decode cX12_rule 91 = .ok (.iload 4, 2) := by decide +kernel
theorem d_X12_rule_93 : decode cX12_rule 93 = .ok (.iaload, 1) := by decide +kernel
theorem d_X12_rule_94 : decode cX12_rule 94 = .ok (.iastore, 1) := by decide +kernel
theorem d_X12_rule_95 : decode cX12_rule 95 = .ok (.iinc 4 1, 3) := by decide +kernel
theorem d_X12_rule_98 : decode cX12_rule 98 = .ok (.goto (-40), 3) := by decide +kernel
theorem d_X12_rule_101 : decode cX12_rule 101 = .ok (.aload_n 0, 1) := by decide +kernel
theorem d_X12_rule_102 : decode cX12_rule 102 = .ok (.getfield 9, 3) := by decide +kernel
theorem d_X12_rule_105 : decode cX12_rule 105 = .ok (.sipush 1064, 3) := by decide +kernel
theorem d_X12_rule_108 : decode cX12_rule 108 = .ok (.dup2, 1) := by decide +kernel
theorem d_X12_rule_109 : decode cX12_rule 109 = .ok (.iaload, 1) := by decide +kernel
theorem d_X12_rule_110 : decode cX12_rule 110 = .ok (.iconst 1, 1) := by decide +kernel
theorem d_X12_rule_111 : decode cX12_rule 111 = .ok (.iadd, 1) := by decide +kernel
theorem d_X12_rule_112 : decode cX12_rule 112 = .ok (.iastore, 1) := by decide +kernel
theorem d_X12_rule_113 : decode cX12_rule 113 = .ok (.aload_n 0, 1) := by decide +kernel
theorem d_X12_rule_114 : decode cX12_rule 114 = .ok (.getfield 9, 3) := by decide +kernel
theorem d_X12_rule_117 : decode cX12_rule 117 = .ok (.sipush 1064, 3) := by decide +kernel
theorem d_X12_rule_120 : decode cX12_rule 120 = .ok (.iaload, 1) := by decide +kernel
theorem d_X12_rule_121 : decode cX12_rule 121 = .ok (.iconst 1, 1) := by decide +kernel
theorem d_X12_rule_122 : decode cX12_rule 122 = .ok (.isub, 1) := by decide +kernel
theorem d_X12_rule_123 : decode cX12_rule 123 = .ok (.ireturn, 1) := by decide +kernel
set_option maxHeartbeats 4000000 in
set_option maxRecDepth 100000 in
theorem t_X12_rule_58 {X : XT_x} {G : GT_g} {z : (Mem_m × Int)} (C : Cx_ (K_X12_rule) X G) (hR : Rx_ X G (some .int)) (x0 : Nat) : ∀ (n : Nat) (M : Mem_m) (x4 : Int) (o_x4 : ok_i x4), f_X12_rule_58 G.2.2.2 x0 n M x4 = some z → V_ (K_X12_rule) X G (Fq_ X G (Qi_ G z.1 z.2)) M 58 [(0, .ref (G.1 + x0)), (4, iv_i x4)] [] := by
  intro n
  induction n with
  | zero => intro M x4 o_x4 h; exact absurd h (by simp [f_X12_rule_58])
  | succ n ih =>
    intro M x4 o_x4 h
    unfold f_X12_rule_58 at h
    refine V_iload (j := 1) C d_X12_rule_58 rfl ?_
    refine V_bipush (v := 8) C d_X12_rule_60 rfl ?_
    refine V_icmp_ge (tgt := 101) C d_X12_rule_62 (by decide) o_x4 (okc rfl) h (fun h => ?_) (fun h => ?_)
    · skip
      refine V_aload_n (j := 0) C d_X12_rule_65 rfl rfl ?_
      refine V_getR C ck_12 fw_X12_9 d_X12_rule_66 h (fun v1 h => ?_)
      refine V_sipush (v := 712) C d_X12_rule_69 rfl ?_
      refine V_bipush (v := 8) C d_X12_rule_72 rfl ?_
      refine V_aload_n (j := 0) C d_X12_rule_74 rfl rfl ?_
      refine V_getR C ck_12 fw_X12_9 d_X12_rule_75 h (fun v2 h => ?_)
      refine V_sipush (v := 1064) C d_X12_rule_78 rfl ?_
      refine V_iald C d_X12_rule_81 (okc rfl) h (fun v3 o3 h => ?_)
      refine V_imul C d_X12_rule_82 ?_
      refine V_iadd C d_X12_rule_83 ?_
      refine V_iload (j := 1) C d_X12_rule_84 rfl ?_
      refine V_iadd C d_X12_rule_86 ?_
      refine V_aload_n (j := 0) C d_X12_rule_87 rfl rfl ?_
      refine V_getR C ck_12 fw_X12_43 d_X12_rule_88 h (fun v4 h => ?_)
      refine V_iload (j := 1) C d_X12_rule_91 rfl ?_
      refine V_iald C d_X12_rule_93 o_x4 h (fun v5 o5 h => ?_)
      refine V_iast C d_X12_rule_94 (ok_wr _) o5 h (fun M6 h => ?_)
      refine V_iinc (j := 1) (lv' := [(4, iv_i (wr_i (x4 + 1))), (0, .ref (G.1 + x0))]) C d_X12_rule_95 rfl (by decide) rfl ?_
      refine V_goto (tgt := 58) C d_X12_rule_98 (by decide) ?_
      refine V_lv [1, 0] rfl (ih M6 (wr_i (x4 + 1)) (ok_wr _) h)
    · skip
      refine V_aload_n (j := 0) C d_X12_rule_101 rfl rfl ?_
      refine V_getR C ck_12 fw_X12_9 d_X12_rule_102 h (fun v7 h => ?_)
      refine V_sipush (v := 1064) C d_X12_rule_105 rfl ?_
      refine V_dup2 C d_X12_rule_108 rfl rfl ?_
      refine V_iald C d_X12_rule_109 (okc rfl) h (fun v8 o8 h => ?_)
      refine V_iconst C d_X12_rule_110 ?_
      refine V_iadd C d_X12_rule_111 ?_
      refine V_iast C d_X12_rule_112 (okc rfl) (ok_wr _) h (fun M9 h => ?_)
      refine V_aload_n (j := 0) C d_X12_rule_113 rfl rfl ?_
      refine V_getR C ck_12 fw_X12_9 d_X12_rule_114 h (fun v10 h => ?_)
      refine V_sipush (v := 1064) C d_X12_rule_117 rfl ?_
      refine V_iald C d_X12_rule_120 (okc rfl) h (fun v11 o11 h => ?_)
      refine V_iconst C d_X12_rule_121 ?_
      refine V_isub C d_X12_rule_122 ?_
      exact V_iret_w C hR d_X12_rule_123 (ok_wr _) h
set_option maxHeartbeats 4000000 in
set_option maxRecDepth 100000 in
theorem t_X12_rule {X : XT_x} {G : GT_g} {M : Mem_m} {z : (Mem_m × Int)} (C : Cx_ (K_X12_rule) X G) (hR : Rx_ X G (some .int)) (x0 : Nat) (x1 : Int) (o_x1 : ok_i x1) (h : f_X12_rule G.2.2.2 M x0 x1 = some z) : V_ (K_X12_rule) X G (Fq_ X G (Qi_ G z.1 z.2)) M 0 [(0, .ref (G.1 + x0)), (1, iv_i x1)] [] := by
  unfold f_X12_rule at h
  refine V_iload_n (j := 1) C d_X12_rule_0 rfl rfl ?_
  refine V_callSri (K' := K_X12_isShelf) (av := [iv_i x1]) (rest := []) ys_X12_isShelf C (yk_X12_isShelf) l1_X12_75 (by decide) d_X12_rule_1 (fun v hv => ct_X12_isShelf x1 o_x1 hv) rfl rfl (Nat.le_of_ble_eq_true rfl) h (fun v1 o1 h => ?_)
  refine V_if_ne (tgt := 9) C d_X12_rule_4 (by decide) o1 h (fun h => ?_) (fun h => ?_)
  · skip
    refine V_iconst C d_X12_rule_7 ?_
    exact V_iret_w C hR d_X12_rule_8 (okc rfl) h
  · skip
    refine V_aload_n (j := 0) C d_X12_rule_9 rfl rfl ?_
    refine V_getR C ck_12 fw_X12_9 d_X12_rule_10 h (fun v2 h => ?_)
    refine V_sipush (v := 1064) C d_X12_rule_13 rfl ?_
    refine V_iald C d_X12_rule_16 (okc rfl) h (fun v3 o3 h => ?_)
    refine V_bipush (v := 8) C d_X12_rule_17 rfl ?_
    refine V_icmp_ne (tgt := 25) C d_X12_rule_19 (by decide) o3 (okc rfl) h (fun h => ?_) (fun h => ?_)
    · skip
      refine V_bipush (v := (-2)) C d_X12_rule_22 rfl ?_
      exact V_iret_w C hR d_X12_rule_24 (okc rfl) h
    · skip
      refine V_aload_n (j := 0) C d_X12_rule_25 rfl rfl ?_
      refine V_iload_n (j := 1) C d_X12_rule_26 rfl rfl ?_
      refine V_iconst C d_X12_rule_27 ?_
      refine V_callVri (K' := K_X12_wrongRow) (a := x0) (ci := 12) (av := [iv_i x1, iv_i 0]) (rest := []) yi_X12_wrongRow (by decide) rfl C (yk_X12_wrongRow) l1_X12_79 (by decide) d_X12_rule_28 (fun v hv => ct_X12_wrongRow x0 x1 0 o_x1 (okc rfl) hv) rfl rfl (Nat.le_of_ble_eq_true rfl) h (fun v4 o4 h => ?_)
      refine V_istore_n (lv' := [(2, iv_i v4), (0, .ref (G.1 + x0)), (1, iv_i x1)]) C d_X12_rule_31 rfl (by decide) rfl ?_
      refine V_iload_n (j := 0) C d_X12_rule_32 rfl rfl ?_
      refine V_if_eq (tgt := 38) C d_X12_rule_33 (by decide) o4 h (fun h => ?_) (fun h => ?_)
      · skip
        refine V_aload_n (j := 1) C d_X12_rule_38 rfl rfl ?_
        refine V_iload_n (j := 2) C d_X12_rule_39 rfl rfl ?_
        refine V_callVwi (K' := K_X12_faultOf) (a := x0) (ci := 12) (av := [iv_i x1]) (rest := []) yi_X12_faultOf (by decide) rfl C (yk_X12_faultOf) l1_X12_191 (by decide) d_X12_rule_40 (fun v hv => ct_X12_faultOf x0 x1 o_x1 hv) rfl rfl (Nat.le_of_ble_eq_true rfl) h (fun z5 o5 h => ?_)
        refine V_istore_n (lv' := [(3, iv_i z5.2), (2, iv_i v4), (0, .ref (G.1 + x0)), (1, iv_i x1)]) C d_X12_rule_43 rfl (by decide) rfl ?_
        refine V_iload_n (j := 0) C d_X12_rule_44 rfl rfl ?_
        refine V_bipush (v := (-4)) C d_X12_rule_45 rfl ?_
        refine V_icmp_eq (tgt := 55) C d_X12_rule_47 (by decide) o5 (okc rfl) h (fun h => ?_) (fun h => ?_)
        · skip
          refine V_iconst C d_X12_rule_55 ?_
          refine V_istore (lv' := [(4, iv_i 0), (3, iv_i z5.2), (2, iv_i v4), (0, .ref (G.1 + x0)), (1, iv_i x1)]) C d_X12_rule_56 (by decide) rfl ?_
          refine V_lv [3, 0] rfl (t_X12_rule_58 C hR x0 FU_ z5.1 0 (okc rfl) h)
        · skip
          refine V_bipush (v := (-100)) C d_X12_rule_50 rfl ?_
          refine V_iload_n (j := 0) C d_X12_rule_52 rfl rfl ?_
          refine V_isub C d_X12_rule_53 ?_
          exact V_iret_w C hR d_X12_rule_54 (ok_wr _) h
      · skip
        refine V_iload_n (j := 0) C d_X12_rule_36 rfl rfl ?_
        exact V_iret_w C hR d_X12_rule_37 o4 h
set_option maxHeartbeats 4000000 in
set_option maxRecDepth 100000 in
theorem ct_X12_rule {l : Launch} {G : GT_g} {M : Mem_m} (x0 : Nat) (x1 : Int) (o_x1 : ok_i x1) {z : (Mem_m × Int)} (h : f_X12_rule G.2.2.2 M x0 x1 = some z) : MI_ l yX12_rule K_X12_rule (some .int) G M [.ref (G.1 + x0), iv_i x1] z.1 z.2 :=
  met_of (by decide +kernel) rfl (Nat.le_of_ble_eq_true rfl) (fun X hl C hR => by subst hl; exact t_X12_rule C hR x0 x1 o_x1 h)
theorem d_X12_fitsPlace_0 : decode cX12_fitsPlace 0 = .ok (.aload_n 0, 1) := by decide +kernel
theorem d_X12_fitsPlace_1 : decode cX12_fitsPlace 1 = .ok (.getfield 9, 3) := by decide +kernel
theorem d_X12_fitsPlace_4 : decode cX12_fitsPlace 4 = .ok (.iload_n 1, 1) := by decide +kernel
theorem d_X12_fitsPlace_5 : decode cX12_fitsPlace 5 = .ok (.iaload, 1) := by decide +kernel
theorem d_X12_fitsPlace_6 : decode cX12_fitsPlace 6 = .ok (.istore_n 3, 1) := by decide +kernel
theorem d_X12_fitsPlace_7 : decode cX12_fitsPlace 7 = .ok (.iload_n 3, 1) := by decide +kernel
theorem d_X12_fitsPlace_8 : decode cX12_fitsPlace 8 = .ok (.iconst 3, 1) := by decide +kernel
theorem d_X12_fitsPlace_9 : decode cX12_fitsPlace 9 = .ok (.if_icmp .eq 59, 3) := by decide +kernel
theorem d_X12_fitsPlace_12 : decode cX12_fitsPlace 12 = .ok (.iload_n 3, 1) := by decide +kernel
theorem d_X12_fitsPlace_13 : decode cX12_fitsPlace 13 = .ok (.iconst 2, 1) := by decide +kernel
theorem d_X12_fitsPlace_14 : decode cX12_fitsPlace 14 = .ok (.if_icmp .ne 10, 3) := by decide +kernel
theorem d_X12_fitsPlace_17 : decode cX12_fitsPlace 17 = .ok (.iload_n 2, 1) := by decide +kernel
theorem d_X12_fitsPlace_18 : decode cX12_fitsPlace 18 = .ok (.ifCond .ge 54, 3) := by decide +kernel
theorem d_X12_fitsPlace_21 : decode cX12_fitsPlace 21 = .ok (.goto 47, 3) := by decide +kernel
theorem d_X12_fitsPlace_24 : decode cX12_fitsPlace 24 = .ok (.iload_n 2, 1) := by decide +kernel
theorem d_X12_fitsPlace_25 : decode cX12_fitsPlace 25 = .ok (.ifCond .lt 47, 3) := by decide +kernel
theorem d_X12_fitsPlace_28 : decode cX12_fitsPlace 28 = .ok (.iload_n 3, 1) := by decide +kernel
theorem d_X12_fitsPlace_29 : decode cX12_fitsPlace 29 = .ok (.ifCond .ne 18, 3) := by decide +kernel
theorem d_X12_fitsPlace_32 : decode cX12_fitsPlace 32 = .ok (.aload_n 0, 1) := by decide +kernel
theorem d_X12_fitsPlace_33 : decode cX12_fitsPlace 33 = .ok (.getfield 9, 3) := by decide +kernel
theorem d_X12_fitsPlace_36 : decode cX12_fitsPlace 36 = .ok (.iload_n 1, 1) := by decide +kernel
theorem d_X12_fitsPlace_37 : decode cX12_fitsPlace 37 = .ok (.iconst 1, 1) := by decide +kernel
theorem d_X12_fitsPlace_38 : decode cX12_fitsPlace 38 = .ok (.iadd, 1) := by decide +kernel
theorem d_X12_fitsPlace_39 : decode cX12_fitsPlace 39 = .ok (.iaload, 1) := by decide +kernel
theorem d_X12_fitsPlace_40 : decode cX12_fitsPlace 40 = .ok (.iload_n 2, 1) := by decide +kernel
theorem d_X12_fitsPlace_41 : decode cX12_fitsPlace 41 = .ok (.if_icmp .ne 31, 3) := by decide +kernel
theorem d_X12_fitsPlace_44 : decode cX12_fitsPlace 44 = .ok (.goto 24, 3) := by decide +kernel
theorem d_X12_fitsPlace_47 : decode cX12_fitsPlace 47 = .ok (.aload_n 0, 1) := by decide +kernel
theorem d_X12_fitsPlace_48 : decode cX12_fitsPlace 48 = .ok (.getfield 9, 3) := by decide +kernel
theorem d_X12_fitsPlace_51 : decode cX12_fitsPlace 51 = .ok (.sipush 1036, 3) := by decide +kernel
theorem d_X12_fitsPlace_54 : decode cX12_fitsPlace 54 = .ok (.iload_n 2, 1) := by decide +kernel
theorem d_X12_fitsPlace_55 : decode cX12_fitsPlace 55 = .ok (.iadd, 1) := by decide +kernel
theorem d_X12_fitsPlace_56 : decode cX12_fitsPlace 56 = .ok (.iaload, 1) := by decide +kernel
theorem d_X12_fitsPlace_57 : decode cX12_fitsPlace 57 = .ok (.aload_n 0, 1) := by decide +kernel
theorem d_X12_fitsPlace_58 : decode cX12_fitsPlace 58 = .ok (.getfield 9, 3) := by decide +kernel
theorem d_X12_fitsPlace_61 : decode cX12_fitsPlace 61 = .ok (.iload_n 1, 1) := by decide +kernel
theorem d_X12_fitsPlace_62 : decode cX12_fitsPlace 62 = .ok (.iconst 1, 1) := by decide +kernel
theorem d_X12_fitsPlace_63 : decode cX12_fitsPlace 63 = .ok (.iadd, 1) := by decide +kernel
theorem d_X12_fitsPlace_64 : decode cX12_fitsPlace 64 = .ok (.iaload, 1) := by decide +kernel
theorem d_X12_fitsPlace_65 : decode cX12_fitsPlace 65 = .ok (.if_icmp .ne 7, 3) := by decide +kernel
theorem d_X12_fitsPlace_68 : decode cX12_fitsPlace 68 = .ok (.iconst 1, 1) := by decide +kernel
theorem d_X12_fitsPlace_69 : decode cX12_fitsPlace 69 = .ok (.goto 4, 3) := by decide +kernel
theorem d_X12_fitsPlace_72 : decode cX12_fitsPlace 72 = .ok (.iconst 0, 1) := by decide +kernel
theorem d_X12_fitsPlace_73 : decode cX12_fitsPlace 73 = .ok (.ireturn, 1) := by decide +kernel
set_option maxHeartbeats 4000000 in
set_option maxRecDepth 100000 in
theorem t_X12_fitsPlace {X : XT_x} {G : GT_g} {M : Mem_m} {z : Int} (C : Cx_ (K_X12_fitsPlace) X G) (hR : Rx_ X G (some .boolean)) (x0 : Nat) (x1 : Int) (x2 : Int) (o_x1 : ok_i x1) (o_x2 : ok_i x2) (h : f_X12_fitsPlace G.2.2.2 M x0 x1 x2 = some z) : V_ (K_X12_fitsPlace) X G (Fq_ X G (Qi_ G M z)) M 0 [(0, .ref (G.1 + x0)), (1, iv_i x1), (2, iv_i x2)] [] := by
  unfold f_X12_fitsPlace at h
  refine V_aload_n (j := 0) C d_X12_fitsPlace_0 rfl rfl ?_
  refine V_getR C ck_12 fw_X12_9 d_X12_fitsPlace_1 h (fun v1 h => ?_)
  refine V_iload_n (j := 1) C d_X12_fitsPlace_4 rfl rfl ?_
  refine V_iald C d_X12_fitsPlace_5 o_x1 h (fun v2 o2 h => ?_)
  refine V_istore_n (lv' := [(3, iv_i v2), (0, .ref (G.1 + x0)), (1, iv_i x1), (2, iv_i x2)]) C d_X12_fitsPlace_6 rfl (by decide) rfl ?_
  refine V_iload_n (j := 0) C d_X12_fitsPlace_7 rfl rfl ?_
  refine V_iconst C d_X12_fitsPlace_8 ?_
  refine V_icmp_eq (tgt := 68) C d_X12_fitsPlace_9 (by decide) o2 (okc rfl) h (fun h => ?_) (fun h => ?_)
  · skip
    refine V_iconst C d_X12_fitsPlace_68 ?_
    refine V_goto (tgt := 73) C d_X12_fitsPlace_69 (by decide) ?_
    exact V_zret_r C hR d_X12_fitsPlace_73 (Or.inr rfl) h
  · skip
    refine V_iload_n (j := 0) C d_X12_fitsPlace_12 rfl rfl ?_
    refine V_iconst C d_X12_fitsPlace_13 ?_
    refine V_icmp_ne (tgt := 24) C d_X12_fitsPlace_14 (by decide) o2 (okc rfl) h (fun h => ?_) (fun h => ?_)
    · skip
      refine V_iload_n (j := 3) C d_X12_fitsPlace_17 rfl rfl ?_
      refine V_if_ge (tgt := 72) C d_X12_fitsPlace_18 (by decide) o_x2 h (fun h => ?_) (fun h => ?_)
      · skip
        refine V_goto (tgt := 68) C d_X12_fitsPlace_21 (by decide) ?_
        refine V_iconst C d_X12_fitsPlace_68 ?_
        refine V_goto (tgt := 73) C d_X12_fitsPlace_69 (by decide) ?_
        exact V_zret_r C hR d_X12_fitsPlace_73 (Or.inr rfl) h
      · skip
        refine V_iconst C d_X12_fitsPlace_72 ?_
        exact V_zret_r C hR d_X12_fitsPlace_73 (Or.inl rfl) h
    · skip
      refine V_iload_n (j := 3) C d_X12_fitsPlace_24 rfl rfl ?_
      refine V_if_lt (tgt := 72) C d_X12_fitsPlace_25 (by decide) o_x2 h (fun h => ?_) (fun h => ?_)
      · skip
        refine V_iconst C d_X12_fitsPlace_72 ?_
        exact V_zret_r C hR d_X12_fitsPlace_73 (Or.inl rfl) h
      · skip
        refine V_iload_n (j := 0) C d_X12_fitsPlace_28 rfl rfl ?_
        refine V_if_ne (tgt := 47) C d_X12_fitsPlace_29 (by decide) o2 h (fun h => ?_) (fun h => ?_)
        · skip
          refine V_aload_n (j := 1) C d_X12_fitsPlace_32 rfl rfl ?_
          refine V_getR C ck_12 fw_X12_9 d_X12_fitsPlace_33 h (fun v3 h => ?_)
          refine V_iload_n (j := 2) C d_X12_fitsPlace_36 rfl rfl ?_
          refine V_iconst C d_X12_fitsPlace_37 ?_
          refine V_iadd C d_X12_fitsPlace_38 ?_
          refine V_iald C d_X12_fitsPlace_39 (ok_wr _) h (fun v4 o4 h => ?_)
          refine V_iload_n (j := 3) C d_X12_fitsPlace_40 rfl rfl ?_
          refine V_icmp_ne (tgt := 72) C d_X12_fitsPlace_41 (by decide) o4 o_x2 h (fun h => ?_) (fun h => ?_)
          · skip
            refine V_goto (tgt := 68) C d_X12_fitsPlace_44 (by decide) ?_
            refine V_iconst C d_X12_fitsPlace_68 ?_
            refine V_goto (tgt := 73) C d_X12_fitsPlace_69 (by decide) ?_
            exact V_zret_r C hR d_X12_fitsPlace_73 (Or.inr rfl) h
          · skip
            refine V_iconst C d_X12_fitsPlace_72 ?_
            exact V_zret_r C hR d_X12_fitsPlace_73 (Or.inl rfl) h
        · skip
          refine V_aload_n (j := 1) C d_X12_fitsPlace_47 rfl rfl ?_
          refine V_getR C ck_12 fw_X12_9 d_X12_fitsPlace_48 h (fun v5 h => ?_)
          refine V_sipush (v := 1036) C d_X12_fitsPlace_51 rfl ?_
          refine V_iload_n (j := 3) C d_X12_fitsPlace_54 rfl rfl ?_
          refine V_iadd C d_X12_fitsPlace_55 ?_
          refine V_iald C d_X12_fitsPlace_56 (ok_wr _) h (fun v6 o6 h => ?_)
          refine V_aload_n (j := 1) C d_X12_fitsPlace_57 rfl rfl ?_
          refine V_getR C ck_12 fw_X12_9 d_X12_fitsPlace_58 h (fun v7 h => ?_)
          refine V_iload_n (j := 2) C d_X12_fitsPlace_61 rfl rfl ?_
          refine V_iconst C d_X12_fitsPlace_62 ?_
          refine V_iadd C d_X12_fitsPlace_63 ?_
          refine V_iald C d_X12_fitsPlace_64 (ok_wr _) h (fun v8 o8 h => ?_)
          refine V_icmp_ne (tgt := 72) C d_X12_fitsPlace_65 (by decide) o6 o8 h (fun h => ?_) (fun h => ?_)
          · skip
            refine V_iconst C d_X12_fitsPlace_68 ?_
            refine V_goto (tgt := 73) C d_X12_fitsPlace_69 (by decide) ?_
            exact V_zret_r C hR d_X12_fitsPlace_73 (Or.inr rfl) h
          · skip
            refine V_iconst C d_X12_fitsPlace_72 ?_
            exact V_zret_r C hR d_X12_fitsPlace_73 (Or.inl rfl) h
set_option maxHeartbeats 4000000 in
set_option maxRecDepth 100000 in
theorem ct_X12_fitsPlace {l : Launch} {G : GT_g} {M : Mem_m} (x0 : Nat) (x1 : Int) (x2 : Int) (o_x1 : ok_i x1) (o_x2 : ok_i x2) {z : Int} (h : f_X12_fitsPlace G.2.2.2 M x0 x1 x2 = some z) : MI_ l yX12_fitsPlace K_X12_fitsPlace (some .boolean) G M [.ref (G.1 + x0), iv_i x1, iv_i x2] M z :=
  met_of (by decide +kernel) rfl (Nat.le_of_ble_eq_true rfl) (fun X hl C hR => by subst hl; exact t_X12_fitsPlace C hR x0 x1 x2 o_x1 o_x2 h)
theorem d_X12_hears_0 : decode cX12_hears 0 = .ok (.iconst 0, 1) := by decide +kernel
theorem d_X12_hears_1 : decode cX12_hears 1 = .ok (.istore_n 1, 1) := by decide +kernel
theorem d_X12_hears_2 : decode cX12_hears 2 = .ok (.iload_n 1, 1) := by decide +kernel
theorem d_X12_hears_3 : decode cX12_hears 3 = .ok (.aload_n 0, 1) := by decide +kernel
theorem d_X12_hears_4 : decode cX12_hears 4 = .ok (.getfield 9, 3) := by decide +kernel
theorem d_X12_hears_7 : decode cX12_hears 7 = .ok (.sipush 1064, 3) := by decide +kernel
theorem d_X12_hears_10 : decode cX12_hears 10 = .ok (.iaload, 1) := by decide +kernel
theorem d_X12_hears_11 : decode cX12_hears 11 = .ok (.if_icmp .ge 216, 3) := by decide +kernel
theorem d_X12_hears_14 : decode cX12_hears 14 = .ok (.sipush 712, 3) := by decide +kernel
theorem d_X12_hears_17 : decode cX12_hears 17 = .ok (.bipush 8, 2) := by decide +kernel
theorem d_X12_hears_19 : decode cX12_hears 19 = .ok (.iload_n 1, 1) := by decide +kernel
theorem d_X12_hears_20 : decode cX12_hears 20 = .ok (.imul, 1) := by decide +kernel
theorem d_X12_hears_21 : decode cX12_hears 21 = .ok (.iadd, 1) := by decide +kernel
theorem d_X12_hears_22 : decode cX12_hears 22 = .ok (.istore_n 2, 1) := by decide +kernel
theorem d_X12_hears_23 : decode cX12_hears 23 = .ok (.aload_n 0, 1) := by decide +kernel
theorem d_X12_hears_24 : decode cX12_hears 24 = .ok (.getfield 194, 3) := by decide +kernel
theorem d_X12_hears_27 : decode cX12_hears 27 = .ok (.istore_n 3, 1) := by decide +kernel
theorem d_X12_hears_28 : decode cX12_hears 28 = .ok (.iconst 0, 1) := by decide +kernel
theorem d_X12_hears_29 : decode cX12_hears 29 = .ok (.istore 4, 2) := by decide +kernel
theorem d_X12_hears_31 : decode cX12_hears 31 = .ok (.iload 4, 2) := by decide +kernel
theorem d_X12_hears_33 : decode cX12_hears 33 = .ok (.iload_n 3, 1) := by decide +kernel
theorem d_X12_hears_34 : decode cX12_hears 34 = .ok (.if_icmp .ge 23, 3) := by decide +kernel
theorem d_X12_hears_37 : decode cX12_hears 37 = .ok (.aload_n 0, 1) := by decide +kernel
theorem d_X12_hears_38 : decode cX12_hears 38 = .ok (.getfield 49, 3) := by decide +kernel
theorem d_X12_hears_41 : decode cX12_hears 41 = .ok (.iload 4, 2) := by decide +kernel
theorem d_X12_hears_43 : decode cX12_hears 43 = .ok (.aload_n 0, 1) := by decide +kernel
theorem d_X12_hears_44 : decode cX12_hears 44 = .ok (.getfield 46, 3) := by decide +kernel
theorem d_X12_hears_47 : decode cX12_hears 47 = .ok (.iload 4, 2) := by decide +kernel
theorem d_X12_hears_49 : decode cX12_hears 49 = .ok (.iaload, 1) := by decide +kernel
theorem d_X12_hears_50 : decode cX12_hears 50 = .ok (.iastore, 1) := by decide +kernel
theorem d_X12_hears_51 : decode cX12_hears 51 = .ok (.iinc 4 1, 3) := by decide +kernel
theorem d_X12_hears_54 : decode cX12_hears 54 = .ok (.goto (-23), 3) := by decide +kernel
theorem d_X12_hears_57 : decode cX12_hears 57 = .ok (.aload_n 0, 1) := by decide +kernel
theorem d_X12_hears_58 : decode cX12_hears 58 = .ok (.iconst 0, 1) := by decide +kernel
theorem d_X12_hears_59 : decode cX12_hears 59 = .ok (.putfield 194, 3) := by decide +kernel
theorem d_X12_hears_62 : decode cX12_hears 62 = .ok (.iconst 0, 1) := by decide +kernel
theorem d_X12_hears_63 : decode cX12_hears 63 = .ok (.istore 4, 2) := by decide +kernel
theorem d_X12_hears_65 : decode cX12_hears 65 = .ok (.iload 4, 2) := by decide +kernel
theorem d_X12_hears_67 : decode cX12_hears 67 = .ok (.iload_n 3, 1) := by decide +kernel
theorem d_X12_hears_68 : decode cX12_hears 68 = .ok (.if_icmp .ge 153, 3) := by decide +kernel
theorem d_X12_hears_71 : decode cX12_hears 71 = .ok (.aload_n 0, 1) := by decide +kernel
theorem d_X12_hears_72 : decode cX12_hears 72 = .ok (.iload_n 2, 1) := by decide +kernel
theorem d_X12_hears_73 : decode cX12_hears 73 = .ok (.aload_n 0, 1) := by decide +kernel
theorem d_X12_hears_74 : decode cX12_hears 74 = .ok (.getfield 49, 3) := by decide +kernel
theorem d_X12_hears_77 : decode cX12_hears 77 = .ok (.iload 4, 2) := by decide +kernel
theorem d_X12_hears_79 : decode cX12_hears 79 = .ok (.iaload, 1) := by decide +kernel
theorem d_X12_hears_80 : decode cX12_hears 80 = .ok (.invokevirtual 197, 3) := by decide +kernel
theorem d_X12_hears_83 : decode cX12_hears 83 = .ok (.ifCond .eq 67, 3) := by decide +kernel
theorem d_X12_hears_86 : decode cX12_hears 86 = .ok (.aload_n 0, 1) := by decide +kernel
theorem d_X12_hears_87 : decode cX12_hears 87 = .ok (.iload_n 2, 1) := by decide +kernel
theorem d_X12_hears_88 : decode cX12_hears 88 = .ok (.iconst 4, 1) := by decide +kernel
theorem d_X12_hears_89 : decode cX12_hears 89 = .ok (.iadd, 1) := by decide +kernel
theorem d_X12_hears_90 : decode cX12_hears 90 = .ok (.iload 4, 2) := by decide +kernel
theorem d_X12_hears_92 : decode cX12_hears 92 = .ok (.ifCond .le 15, 3) := by decide +kernel
theorem d_X12_hears_95 : decode cX12_hears 95 = .ok (.aload_n 0, 1) := by decide +kernel
theorem d_X12_hears_96 : decode cX12_hears 96 = .ok (.getfield 49, 3) := by decide +kernel
theorem d_X12_hears_99 : decode cX12_hears 99 = .ok (.iload 4, 2) := by decide +kernel
theorem d_X12_hears_101 : decode cX12_hears 101 = .ok (.iconst 1, 1) := by decide +kernel
theorem d_X12_hears_102 : decode cX12_hears 102 = .ok (.isub, 1) := by decide +kernel
theorem d_X12_hears_103 : decode cX12_hears 103 = .ok (.iaload, 1) := by decide +kernel
theorem d_X12_hears_104 : decode cX12_hears 104 = .ok (.goto 4, 3) := by decide +kernel
theorem d_X12_hears_107 : decode cX12_hears 107 = .ok (.iconst (-1), 1) := by decide +kernel
theorem d_X12_hears_108 : decode cX12_hears 108 = .ok (.invokevirtual 197, 3) := by decide +kernel
theorem d_X12_hears_111 : decode cX12_hears 111 = .ok (.ifCond .eq 39, 3) := by decide +kernel
theorem d_X12_hears_114 : decode cX12_hears 114 = .ok (.aload_n 0, 1) := by decide +kernel
theorem d_X12_hears_115 : decode cX12_hears 115 = .ok (.iload_n 2, 1) := by decide +kernel
theorem d_X12_hears_116 : decode cX12_hears 116 = .ok (.bipush 6, 2) := by decide +kernel
theorem d_X12_hears_118 : decode cX12_hears 118 = .ok (.iadd, 1) := by decide +kernel
theorem d_X12_hears_119 : decode cX12_hears 119 = .ok (.iload 4, 2) := by decide +kernel
theorem d_X12_hears_121 : decode cX12_hears 121 = .ok (.iconst 1, 1) := by decide +kernel
theorem d_X12_hears_122 : decode cX12_hears 122 = .ok (.iadd, 1) := by decide +kernel
theorem d_X12_hears_123 : decode cX12_hears 123 = .ok (.iload_n 3, 1) := by decide +kernel
theorem d_X12_hears_124 : decode cX12_hears 124 = .ok (.if_icmp .ge 15, 3) := by decide +kernel
theorem d_X12_hears_127 : decode cX12_hears 127 = .ok (.aload_n 0, 1) := by decide +kernel
theorem d_X12_hears_128 : decode cX12_hears 128 = .ok (.getfield 49, 3) := by decide +kernel
theorem d_X12_hears_131 : decode cX12_hears 131 = .ok (.iload 4, 2) := by decide +kernel
theorem d_X12_hears_133 : decode cX12_hears 133 = .ok (.iconst 1, 1) := by decide +kernel
theorem d_X12_hears_134 : decode cX12_hears 134 = .ok (.iadd, 1) := by decide +kernel
theorem d_X12_hears_135 : decode cX12_hears 135 = .ok (.iaload, 1) := by decide +kernel
theorem d_X12_hears_136 : decode cX12_hears 136 = .ok (.goto 4, 3) := by decide +kernel
theorem d_X12_hears_139 : decode cX12_hears 139 = .ok (.iconst (-1), 1) := by decide +kernel
theorem d_X12_hears_140 : decode cX12_hears 140 = .ok (.invokevirtual 197, 3) := by decide +kernel
theorem d_X12_hears_143 : decode cX12_hears 143 = .ok (.ifCond .eq 7, 3) := by decide +kernel
theorem d_X12_hears_146 : decode cX12_hears 146 = .ok (.iconst 1, 1) := by decide +kernel
theorem d_X12_hears_147 : decode cX12_hears 147 = .ok (.goto 4, 3) := by decide +kernel
theorem d_X12_hears_150 : decode cX12_hears 150 = .ok (.iconst 0, 1) := by decide +kernel
theorem d_X12_hears_151 : decode cX12_hears 151 = .ok (.istore 5, 2) := by decide +kernel
theorem d_X12_hears_153 : decode cX12_hears 153 = .ok (.iload 5, 2) := by decide +kernel
theorem d_X12_hears_155 : decode cX12_hears 155 = .ok (.ifCond .eq 18, 3) := by decide +kernel
theorem d_X12_hears_158 : decode cX12_hears 158 = .ok (.aload_n 0, 1) := by decide +kernel
theorem d_X12_hears_159 : decode cX12_hears 159 = .ok (.getfield 9, 3) := by decide +kernel
theorem d_X12_hears_162 : decode cX12_hears 162 = .ok (.iload_n 2, 1) := by decide +kernel
theorem d_X12_hears_163 : decode cX12_hears 163 = .ok (.iconst 2, 1) := by decide +kernel
theorem d_X12_hears_164 : decode cX12_hears 164 = .ok (.iadd, 1) := by decide +kernel
theorem d_X12_hears_165 : decode cX12_hears 165 = .ok (.iaload, 1) := by decide +kernel
theorem d_X12_hears_166 : decode cX12_hears 166 = .ok (.iconst 2, 1) := by decide +kernel
theorem d_X12_hears_167 : decode cX12_hears 167 = .ok (.if_icmp .ne 6, 3) := by decide +kernel
theorem d_X12_hears_170 : decode cX12_hears 170 = .ok (.goto 45, 3) := by decide +kernel
theorem d_X12_hears_173 : decode cX12_hears 173 = .ok (.aload_n 0, 1) := by decide +kernel
theorem d_X12_hears_174 : decode cX12_hears 174 = .ok (.getfield 46, 3) := by decide +kernel
theorem d_X12_hears_177 : decode cX12_hears 177 = .ok (.aload_n 0, 1) := by decide +kernel
theorem d_X12_hears_178 : decode cX12_hears 178 = .ok (.getfield 194, 3) := by decide +kernel
theorem d_X12_hears_181 : decode cX12_hears 181 = .ok (.iload 5, 2) := by decide +kernel
theorem d_X12_hears_183 : decode cX12_hears 183 = .ok (.ifCond .eq 14, 3) := by decide +kernel
theorem d_X12_hears_186 : decode cX12_hears 186 = .ok (.aload_n 0, 1) := by decide +kernel
theorem d_X12_hears_187 : decode cX12_hears 187 = .ok (.getfield 9, 3) := by decide +kernel
theorem d_X12_hears_190 : decode cX12_hears 190 = .ok (.iload_n 2, 1) := by decide +kernel
theorem d_X12_hears_191 : decode cX12_hears 191 = .ok (.iconst 3, 1) := by decide +kernel
theorem d_X12_hears_192 : decode cX12_hears 192 = .ok (.iadd, 1) := by decide +kernel
theorem d_X12_hears_193 : decode cX12_hears 193 = .ok (.iaload, 1) := by decide +kernel
theorem d_X12_hears_194 : decode cX12_hears 194 = .ok (.goto 10, 3) := by decide +kernel
theorem d_X12_hears_197 : decode cX12_hears 197 = .ok (.aload_n 0, 1) := by decide +kernel
theorem d_X12_hears_198 : decode cX12_hears 198 = .ok (.getfield 49, 3) := by decide +kernel
theorem d_X12_hears_201 : decode cX12_hears 201 = .ok (.iload 4, 2) := by decide +kernel
theorem d_X12_hears_203 : decode cX12_hears 203 = .ok (.iaload, 1) := by decide +kernel
theorem d_X12_hears_204 : decode cX12_hears 204 = .ok (.iastore, 1) := by decide +kernel
theorem d_X12_hears_205 : decode cX12_hears 205 = .ok (.aload_n 0, 1) := by decide +kernel
theorem d_X12_hears_206 : decode cX12_hears 206 = .ok (.dup, 1) := by decide +kernel
theorem d_X12_hears_207 : decode cX12_hears 207 = .ok (.getfield 194, 3) := by decide +kernel
theorem d_X12_hears_210 : decode cX12_hears 210 = .ok (.iconst 1, 1) := by decide +kernel
theorem d_X12_hears_211 : decode cX12_hears 211 = .ok (.iadd, 1) := by decide +kernel
theorem d_X12_hears_212 : decode cX12_hears 212 = .ok (.putfield 194, 3) := by decide +kernel
theorem d_X12_hears_215 : decode cX12_hears 215 = .ok (.iinc 4 1, 3) := by decide +kernel
theorem d_X12_hears_218 : decode cX12_hears 218 = .ok (.goto (-153), 3) := by decide +kernel
theorem d_X12_hears_221 : decode cX12_hears 221 = .ok (.iinc 1 1, 3) := by decide +kernel
theorem d_X12_hears_224 : decode cX12_hears 224 = .ok (.goto (-222), 3) := by decide +kernel
theorem d_X12_hears_227 : decode cX12_hears 227 = .ok (.return_, 1) := by decide +kernel
set_option maxHeartbeats 4000000 in
set_option maxRecDepth 100000 in
theorem t_X12_hears_204 {X : XT_x} {G : GT_g} {z : Mem_m} (C : Cx_ (K_X12_hears) X G) (hR : Rx_ X G none) (M : Mem_m) (x0 : Nat) (x1 : Int) (x2 : Int) (x3 : Int) (x4 : Int) (s0 : Int) (s1 : Int) (s2 : Nat) (o_x1 : ok_i x1) (o_x2 : ok_i x2) (o_x3 : ok_i x3) (o_x4 : ok_i x4) (o_s0 : ok_i s0) (o_s1 : ok_i s1) (k_2 : Mem_m → Int → Option Mem_m) (hk_2 : ∀ (M : Mem_m) (x1 : Int) (o_x1 : ok_i x1), k_2 M x1 = some z → V_ (K_X12_hears) X G (Fq_ X G (Qv_ G z)) M 2 [(0, .ref (G.1 + x0)), (1, iv_i x1)] []) (k_65 : Mem_m → Int → Option Mem_m) (hk_65 : ∀ (M : Mem_m) (x4 : Int) (o_x4 : ok_i x4), k_65 M x4 = some z → V_ (K_X12_hears) X G (Fq_ X G (Qv_ G z)) M 65 [(0, .ref (G.1 + x0)), (1, iv_i x1), (2, iv_i x2), (3, iv_i x3), (4, iv_i x4)] []) (h : f_X12_hears_204 G.2.2.2 k_2 k_65 M x0 x1 x2 x3 x4 s0 s1 s2 = some z) : V_ (K_X12_hears) X G (Fq_ X G (Qv_ G z)) M 204 [(0, .ref (G.1 + x0)), (1, iv_i x1), (2, iv_i x2), (3, iv_i x3), (4, iv_i x4)] [iv_i s0, iv_i s1, .ref (G.1 + s2)] := by
  unfold f_X12_hears_204 at h
  refine V_iast C d_X12_hears_204 o_s1 o_s0 h (fun M1 h => ?_)
  refine V_aload_n (j := 0) C d_X12_hears_205 rfl rfl ?_
  refine V_dup C d_X12_hears_206 rfl ?_
  refine V_getI C ck_12 fw_X12_194 d_X12_hears_207 h (fun v2 o2 h => ?_)
  refine V_iconst C d_X12_hears_210 ?_
  refine V_iadd C d_X12_hears_211 ?_
  refine V_putI C ck_12 fw_X12_194 fp_12_20 d_X12_hears_212 (ok_wr _) h (fun M3 h => ?_)
  refine V_iinc (j := 4) (lv' := [(4, iv_i (wr_i (x4 + 1))), (0, .ref (G.1 + x0)), (1, iv_i x1), (2, iv_i x2), (3, iv_i x3)]) C d_X12_hears_215 rfl (by decide) rfl ?_
  refine V_goto (tgt := 65) C d_X12_hears_218 (by decide) ?_
  refine V_lv [1, 2, 3, 4, 0] rfl (hk_65 M3 (wr_i (x4 + 1)) (ok_wr _) h)
set_option maxHeartbeats 4000000 in
set_option maxRecDepth 100000 in
theorem t_X12_hears_173 {X : XT_x} {G : GT_g} {z : Mem_m} (C : Cx_ (K_X12_hears) X G) (hR : Rx_ X G none) (M : Mem_m) (x0 : Nat) (x1 : Int) (x2 : Int) (x3 : Int) (x4 : Int) (x5 : Int) (o_x1 : ok_i x1) (o_x2 : ok_i x2) (o_x3 : ok_i x3) (o_x4 : ok_i x4) (o_x5 : ok_i x5) (k_2 : Mem_m → Int → Option Mem_m) (hk_2 : ∀ (M : Mem_m) (x1 : Int) (o_x1 : ok_i x1), k_2 M x1 = some z → V_ (K_X12_hears) X G (Fq_ X G (Qv_ G z)) M 2 [(0, .ref (G.1 + x0)), (1, iv_i x1)] []) (k_65 : Mem_m → Int → Option Mem_m) (hk_65 : ∀ (M : Mem_m) (x4 : Int) (o_x4 : ok_i x4), k_65 M x4 = some z → V_ (K_X12_hears) X G (Fq_ X G (Qv_ G z)) M 65 [(0, .ref (G.1 + x0)), (1, iv_i x1), (2, iv_i x2), (3, iv_i x3), (4, iv_i x4)] []) (h : f_X12_hears_173 G.2.2.2 k_2 k_65 M x0 x1 x2 x3 x4 x5 = some z) : V_ (K_X12_hears) X G (Fq_ X G (Qv_ G z)) M 173 [(0, .ref (G.1 + x0)), (1, iv_i x1), (2, iv_i x2), (3, iv_i x3), (4, iv_i x4), (5, iv_i x5)] [] := by
  unfold f_X12_hears_173 at h
  refine V_aload_n (j := 0) C d_X12_hears_173 rfl rfl ?_
  refine V_getR C ck_12 fw_X12_46 d_X12_hears_174 h (fun v1 h => ?_)
  refine V_aload_n (j := 0) C d_X12_hears_177 rfl rfl ?_
  refine V_getI C ck_12 fw_X12_194 d_X12_hears_178 h (fun v2 o2 h => ?_)
  refine V_iload (j := 5) C d_X12_hears_181 rfl ?_
  refine V_if_eq (tgt := 197) C d_X12_hears_183 (by decide) o_x5 h (fun h => ?_) (fun h => ?_)
  · skip
    refine V_aload_n (j := 0) C d_X12_hears_197 rfl rfl ?_
    refine V_getR C ck_12 fw_X12_49 d_X12_hears_198 h (fun v3 h => ?_)
    refine V_iload (j := 4) C d_X12_hears_201 rfl ?_
    refine V_iald C d_X12_hears_203 o_x4 h (fun v4 o4 h => ?_)
    refine V_lv [0, 1, 2, 3, 4] rfl (t_X12_hears_204 C hR M x0 x1 x2 x3 x4 v4 v2 v1 o_x1 o_x2 o_x3 o_x4 o4 o2 k_2 hk_2 k_65 hk_65 h)
  · skip
    refine V_aload_n (j := 0) C d_X12_hears_186 rfl rfl ?_
    refine V_getR C ck_12 fw_X12_9 d_X12_hears_187 h (fun v5 h => ?_)
    refine V_iload_n (j := 2) C d_X12_hears_190 rfl rfl ?_
    refine V_iconst C d_X12_hears_191 ?_
    refine V_iadd C d_X12_hears_192 ?_
    refine V_iald C d_X12_hears_193 (ok_wr _) h (fun v6 o6 h => ?_)
    refine V_goto (tgt := 204) C d_X12_hears_194 (by decide) ?_
    refine V_lv [0, 1, 2, 3, 4] rfl (t_X12_hears_204 C hR M x0 x1 x2 x3 x4 v6 v2 v1 o_x1 o_x2 o_x3 o_x4 o6 o2 k_2 hk_2 k_65 hk_65 h)
set_option maxHeartbeats 4000000 in
set_option maxRecDepth 100000 in
theorem t_X12_hears_151 {X : XT_x} {G : GT_g} {z : Mem_m} (C : Cx_ (K_X12_hears) X G) (hR : Rx_ X G none) (M : Mem_m) (x0 : Nat) (x1 : Int) (x2 : Int) (x3 : Int) (x4 : Int) (s0 : Int) (o_x1 : ok_i x1) (o_x2 : ok_i x2) (o_x3 : ok_i x3) (o_x4 : ok_i x4) (o_s0 : ok_i s0) (k_2 : Mem_m → Int → Option Mem_m) (hk_2 : ∀ (M : Mem_m) (x1 : Int) (o_x1 : ok_i x1), k_2 M x1 = some z → V_ (K_X12_hears) X G (Fq_ X G (Qv_ G z)) M 2 [(0, .ref (G.1 + x0)), (1, iv_i x1)] []) (k_65 : Mem_m → Int → Option Mem_m) (hk_65 : ∀ (M : Mem_m) (x4 : Int) (o_x4 : ok_i x4), k_65 M x4 = some z → V_ (K_X12_hears) X G (Fq_ X G (Qv_ G z)) M 65 [(0, .ref (G.1 + x0)), (1, iv_i x1), (2, iv_i x2), (3, iv_i x3), (4, iv_i x4)] []) (h : f_X12_hears_151 G.2.2.2 k_2 k_65 M x0 x1 x2 x3 x4 s0 = some z) : V_ (K_X12_hears) X G (Fq_ X G (Qv_ G z)) M 151 [(0, .ref (G.1 + x0)), (1, iv_i x1), (2, iv_i x2), (3, iv_i x3), (4, iv_i x4)] [iv_i s0] := by
  unfold f_X12_hears_151 at h
  refine V_istore (lv' := [(5, iv_i s0), (0, .ref (G.1 + x0)), (1, iv_i x1), (2, iv_i x2), (3, iv_i x3), (4, iv_i x4)]) C d_X12_hears_151 (by decide) rfl ?_
  refine V_iload (j := 0) C d_X12_hears_153 rfl ?_
  refine V_if_eq (tgt := 173) C d_X12_hears_155 (by decide) o_s0 h (fun h => ?_) (fun h => ?_)
  · skip
    refine V_lv [1, 2, 3, 4, 5, 0] rfl (t_X12_hears_173 C hR M x0 x1 x2 x3 x4 s0 o_x1 o_x2 o_x3 o_x4 o_s0 k_2 hk_2 k_65 hk_65 h)
  · skip
    refine V_aload_n (j := 1) C d_X12_hears_158 rfl rfl ?_
    refine V_getR C ck_12 fw_X12_9 d_X12_hears_159 h (fun v1 h => ?_)
    refine V_iload_n (j := 3) C d_X12_hears_162 rfl rfl ?_
    refine V_iconst C d_X12_hears_163 ?_
    refine V_iadd C d_X12_hears_164 ?_
    refine V_iald C d_X12_hears_165 (ok_wr _) h (fun v2 o2 h => ?_)
    refine V_iconst C d_X12_hears_166 ?_
    refine V_icmp_ne (tgt := 173) C d_X12_hears_167 (by decide) o2 (okc rfl) h (fun h => ?_) (fun h => ?_)
    · skip
      refine V_goto (tgt := 215) C d_X12_hears_170 (by decide) ?_
      refine V_iinc (j := 5) (lv' := [(4, iv_i (wr_i (x4 + 1))), (5, iv_i s0), (0, .ref (G.1 + x0)), (1, iv_i x1), (2, iv_i x2), (3, iv_i x3)]) C d_X12_hears_215 rfl (by decide) rfl ?_
      refine V_goto (tgt := 65) C d_X12_hears_218 (by decide) ?_
      refine V_lv [2, 3, 4, 5, 0] rfl (hk_65 M (wr_i (x4 + 1)) (ok_wr _) h)
    · skip
      refine V_lv [1, 2, 3, 4, 5, 0] rfl (t_X12_hears_173 C hR M x0 x1 x2 x3 x4 s0 o_x1 o_x2 o_x3 o_x4 o_s0 k_2 hk_2 k_65 hk_65 h)
set_option maxHeartbeats 4000000 in
set_option maxRecDepth 100000 in
theorem t_X12_hears_150 {X : XT_x} {G : GT_g} {z : Mem_m} (C : Cx_ (K_X12_hears) X G) (hR : Rx_ X G none) (M : Mem_m) (x0 : Nat) (x1 : Int) (x2 : Int) (x3 : Int) (x4 : Int) (o_x1 : ok_i x1) (o_x2 : ok_i x2) (o_x3 : ok_i x3) (o_x4 : ok_i x4) (k_2 : Mem_m → Int → Option Mem_m) (hk_2 : ∀ (M : Mem_m) (x1 : Int) (o_x1 : ok_i x1), k_2 M x1 = some z → V_ (K_X12_hears) X G (Fq_ X G (Qv_ G z)) M 2 [(0, .ref (G.1 + x0)), (1, iv_i x1)] []) (k_65 : Mem_m → Int → Option Mem_m) (hk_65 : ∀ (M : Mem_m) (x4 : Int) (o_x4 : ok_i x4), k_65 M x4 = some z → V_ (K_X12_hears) X G (Fq_ X G (Qv_ G z)) M 65 [(0, .ref (G.1 + x0)), (1, iv_i x1), (2, iv_i x2), (3, iv_i x3), (4, iv_i x4)] []) (h : f_X12_hears_150 G.2.2.2 k_2 k_65 M x0 x1 x2 x3 x4 = some z) : V_ (K_X12_hears) X G (Fq_ X G (Qv_ G z)) M 150 [(0, .ref (G.1 + x0)), (1, iv_i x1), (2, iv_i x2), (3, iv_i x3), (4, iv_i x4)] [] := by
  unfold f_X12_hears_150 at h
  refine V_iconst C d_X12_hears_150 ?_
  refine V_lv [0, 1, 2, 3, 4] rfl (t_X12_hears_151 C hR M x0 x1 x2 x3 x4 0 o_x1 o_x2 o_x3 o_x4 (okc rfl) k_2 hk_2 k_65 hk_65 h)
set_option maxHeartbeats 4000000 in
set_option maxRecDepth 100000 in
theorem t_X12_hears_140 {X : XT_x} {G : GT_g} {z : Mem_m} (C : Cx_ (K_X12_hears) X G) (hR : Rx_ X G none) (M : Mem_m) (x0 : Nat) (x1 : Int) (x2 : Int) (x3 : Int) (x4 : Int) (s0 : Int) (s1 : Int) (s2 : Nat) (o_x1 : ok_i x1) (o_x2 : ok_i x2) (o_x3 : ok_i x3) (o_x4 : ok_i x4) (o_s0 : ok_i s0) (o_s1 : ok_i s1) (k_2 : Mem_m → Int → Option Mem_m) (hk_2 : ∀ (M : Mem_m) (x1 : Int) (o_x1 : ok_i x1), k_2 M x1 = some z → V_ (K_X12_hears) X G (Fq_ X G (Qv_ G z)) M 2 [(0, .ref (G.1 + x0)), (1, iv_i x1)] []) (k_65 : Mem_m → Int → Option Mem_m) (hk_65 : ∀ (M : Mem_m) (x4 : Int) (o_x4 : ok_i x4), k_65 M x4 = some z → V_ (K_X12_hears) X G (Fq_ X G (Qv_ G z)) M 65 [(0, .ref (G.1 + x0)), (1, iv_i x1), (2, iv_i x2), (3, iv_i x3), (4, iv_i x4)] []) (h : f_X12_hears_140 G.2.2.2 k_2 k_65 M x0 x1 x2 x3 x4 s0 s1 s2 = some z) : V_ (K_X12_hears) X G (Fq_ X G (Qv_ G z)) M 140 [(0, .ref (G.1 + x0)), (1, iv_i x1), (2, iv_i x2), (3, iv_i x3), (4, iv_i x4)] [iv_i s0, iv_i s1, .ref (G.1 + s2)] := by
  unfold f_X12_hears_140 at h
  refine V_callVri (K' := K_X12_fitsPlace) (a := s2) (ci := 12) (av := [iv_i s1, iv_i s0]) (rest := []) yi_X12_fitsPlace (by decide) rfl C (yk_X12_fitsPlace) l1_X12_197 (by decide) d_X12_hears_140 (fun v hv => ct_X12_fitsPlace s2 s1 s0 o_s1 o_s0 hv) rfl rfl (Nat.le_of_ble_eq_true rfl) h (fun v1 o1 h => ?_)
  refine V_if_eq (tgt := 150) C d_X12_hears_143 (by decide) o1 h (fun h => ?_) (fun h => ?_)
  · skip
    refine V_lv [0, 1, 2, 3, 4] rfl (t_X12_hears_150 C hR M x0 x1 x2 x3 x4 o_x1 o_x2 o_x3 o_x4 k_2 hk_2 k_65 hk_65 h)
  · skip
    refine V_iconst C d_X12_hears_146 ?_
    refine V_goto (tgt := 151) C d_X12_hears_147 (by decide) ?_
    refine V_lv [0, 1, 2, 3, 4] rfl (t_X12_hears_151 C hR M x0 x1 x2 x3 x4 1 o_x1 o_x2 o_x3 o_x4 (okc rfl) k_2 hk_2 k_65 hk_65 h)
set_option maxHeartbeats 4000000 in
set_option maxRecDepth 100000 in
theorem t_X12_hears_108 {X : XT_x} {G : GT_g} {z : Mem_m} (C : Cx_ (K_X12_hears) X G) (hR : Rx_ X G none) (M : Mem_m) (x0 : Nat) (x1 : Int) (x2 : Int) (x3 : Int) (x4 : Int) (s0 : Int) (s1 : Int) (s2 : Nat) (o_x1 : ok_i x1) (o_x2 : ok_i x2) (o_x3 : ok_i x3) (o_x4 : ok_i x4) (o_s0 : ok_i s0) (o_s1 : ok_i s1) (k_2 : Mem_m → Int → Option Mem_m) (hk_2 : ∀ (M : Mem_m) (x1 : Int) (o_x1 : ok_i x1), k_2 M x1 = some z → V_ (K_X12_hears) X G (Fq_ X G (Qv_ G z)) M 2 [(0, .ref (G.1 + x0)), (1, iv_i x1)] []) (k_65 : Mem_m → Int → Option Mem_m) (hk_65 : ∀ (M : Mem_m) (x4 : Int) (o_x4 : ok_i x4), k_65 M x4 = some z → V_ (K_X12_hears) X G (Fq_ X G (Qv_ G z)) M 65 [(0, .ref (G.1 + x0)), (1, iv_i x1), (2, iv_i x2), (3, iv_i x3), (4, iv_i x4)] []) (h : f_X12_hears_108 G.2.2.2 k_2 k_65 M x0 x1 x2 x3 x4 s0 s1 s2 = some z) : V_ (K_X12_hears) X G (Fq_ X G (Qv_ G z)) M 108 [(0, .ref (G.1 + x0)), (1, iv_i x1), (2, iv_i x2), (3, iv_i x3), (4, iv_i x4)] [iv_i s0, iv_i s1, .ref (G.1 + s2)] := by
  unfold f_X12_hears_108 at h
  refine V_callVri (K' := K_X12_fitsPlace) (a := s2) (ci := 12) (av := [iv_i s1, iv_i s0]) (rest := []) yi_X12_fitsPlace (by decide) rfl C (yk_X12_fitsPlace) l1_X12_197 (by decide) d_X12_hears_108 (fun v hv => ct_X12_fitsPlace s2 s1 s0 o_s1 o_s0 hv) rfl rfl (Nat.le_of_ble_eq_true rfl) h (fun v1 o1 h => ?_)
  refine V_if_eq (tgt := 150) C d_X12_hears_111 (by decide) o1 h (fun h => ?_) (fun h => ?_)
  · skip
    refine V_lv [0, 1, 2, 3, 4] rfl (t_X12_hears_150 C hR M x0 x1 x2 x3 x4 o_x1 o_x2 o_x3 o_x4 k_2 hk_2 k_65 hk_65 h)
  · skip
    refine V_aload_n (j := 0) C d_X12_hears_114 rfl rfl ?_
    refine V_iload_n (j := 2) C d_X12_hears_115 rfl rfl ?_
    refine V_bipush (v := 6) C d_X12_hears_116 rfl ?_
    refine V_iadd C d_X12_hears_118 ?_
    refine V_iload (j := 4) C d_X12_hears_119 rfl ?_
    refine V_iconst C d_X12_hears_121 ?_
    refine V_iadd C d_X12_hears_122 ?_
    refine V_iload_n (j := 3) C d_X12_hears_123 rfl rfl ?_
    refine V_icmp_ge (tgt := 139) C d_X12_hears_124 (by decide) (ok_wr _) o_x3 h (fun h => ?_) (fun h => ?_)
    · skip
      refine V_aload_n (j := 0) C d_X12_hears_127 rfl rfl ?_
      refine V_getR C ck_12 fw_X12_49 d_X12_hears_128 h (fun v2 h => ?_)
      refine V_iload (j := 4) C d_X12_hears_131 rfl ?_
      refine V_iconst C d_X12_hears_133 ?_
      refine V_iadd C d_X12_hears_134 ?_
      refine V_iald C d_X12_hears_135 (ok_wr _) h (fun v3 o3 h => ?_)
      refine V_goto (tgt := 140) C d_X12_hears_136 (by decide) ?_
      refine V_lv [0, 1, 2, 3, 4] rfl (t_X12_hears_140 C hR M x0 x1 x2 x3 x4 v3 (wr_i (x2 + 6)) x0 o_x1 o_x2 o_x3 o_x4 o3 (ok_wr _) k_2 hk_2 k_65 hk_65 h)
    · skip
      refine V_iconst C d_X12_hears_139 ?_
      refine V_lv [0, 1, 2, 3, 4] rfl (t_X12_hears_140 C hR M x0 x1 x2 x3 x4 (-1) (wr_i (x2 + 6)) x0 o_x1 o_x2 o_x3 o_x4 (okc rfl) (ok_wr _) k_2 hk_2 k_65 hk_65 h)
set_option maxHeartbeats 4000000 in
set_option maxRecDepth 100000 in
theorem t_X12_hears_65 {X : XT_x} {G : GT_g} {z : Mem_m} (C : Cx_ (K_X12_hears) X G) (hR : Rx_ X G none) (x0 : Nat) (x1 : Int) (x2 : Int) (x3 : Int) (o_x1 : ok_i x1) (o_x2 : ok_i x2) (o_x3 : ok_i x3) (k_2 : Mem_m → Int → Option Mem_m) (hk_2 : ∀ (M : Mem_m) (x1 : Int) (o_x1 : ok_i x1), k_2 M x1 = some z → V_ (K_X12_hears) X G (Fq_ X G (Qv_ G z)) M 2 [(0, .ref (G.1 + x0)), (1, iv_i x1)] []) : ∀ (n : Nat) (M : Mem_m) (x4 : Int) (o_x4 : ok_i x4), f_X12_hears_65 G.2.2.2 k_2 x0 x1 x2 x3 n M x4 = some z → V_ (K_X12_hears) X G (Fq_ X G (Qv_ G z)) M 65 [(0, .ref (G.1 + x0)), (1, iv_i x1), (2, iv_i x2), (3, iv_i x3), (4, iv_i x4)] [] := by
  intro n
  induction n with
  | zero => intro M x4 o_x4 h; exact absurd h (by simp [f_X12_hears_65])
  | succ n ih =>
    intro M x4 o_x4 h
    unfold f_X12_hears_65 at h
    refine V_iload (j := 4) C d_X12_hears_65 rfl ?_
    refine V_iload_n (j := 3) C d_X12_hears_67 rfl rfl ?_
    refine V_icmp_ge (tgt := 221) C d_X12_hears_68 (by decide) o_x4 o_x3 h (fun h => ?_) (fun h => ?_)
    · skip
      refine V_aload_n (j := 0) C d_X12_hears_71 rfl rfl ?_
      refine V_iload_n (j := 2) C d_X12_hears_72 rfl rfl ?_
      refine V_aload_n (j := 0) C d_X12_hears_73 rfl rfl ?_
      refine V_getR C ck_12 fw_X12_49 d_X12_hears_74 h (fun v1 h => ?_)
      refine V_iload (j := 4) C d_X12_hears_77 rfl ?_
      refine V_iald C d_X12_hears_79 o_x4 h (fun v2 o2 h => ?_)
      refine V_callVri (K' := K_X12_fitsPlace) (a := x0) (ci := 12) (av := [iv_i x2, iv_i v2]) (rest := []) yi_X12_fitsPlace (by decide) rfl C (yk_X12_fitsPlace) l1_X12_197 (by decide) d_X12_hears_80 (fun v hv => ct_X12_fitsPlace x0 x2 v2 o_x2 o2 hv) rfl rfl (Nat.le_of_ble_eq_true rfl) h (fun v3 o3 h => ?_)
      refine V_if_eq (tgt := 150) C d_X12_hears_83 (by decide) o3 h (fun h => ?_) (fun h => ?_)
      · skip
        refine V_lv [0, 1, 2, 3, 4] rfl (t_X12_hears_150 C hR M x0 x1 x2 x3 x4 o_x1 o_x2 o_x3 o_x4 k_2 hk_2 (fun M x4 => f_X12_hears_65 G.2.2.2 k_2 x0 x1 x2 x3 n M x4) (fun M x4 o_x4 h9 => ih M x4 o_x4 h9) h)
      · skip
        refine V_aload_n (j := 0) C d_X12_hears_86 rfl rfl ?_
        refine V_iload_n (j := 2) C d_X12_hears_87 rfl rfl ?_
        refine V_iconst C d_X12_hears_88 ?_
        refine V_iadd C d_X12_hears_89 ?_
        refine V_iload (j := 4) C d_X12_hears_90 rfl ?_
        refine V_if_le (tgt := 107) C d_X12_hears_92 (by decide) o_x4 h (fun h => ?_) (fun h => ?_)
        · skip
          refine V_iconst C d_X12_hears_107 ?_
          refine V_lv [0, 1, 2, 3, 4] rfl (t_X12_hears_108 C hR M x0 x1 x2 x3 x4 (-1) (wr_i (x2 + 4)) x0 o_x1 o_x2 o_x3 o_x4 (okc rfl) (ok_wr _) k_2 hk_2 (fun M x4 => f_X12_hears_65 G.2.2.2 k_2 x0 x1 x2 x3 n M x4) (fun M x4 o_x4 h9 => ih M x4 o_x4 h9) h)
        · skip
          refine V_aload_n (j := 0) C d_X12_hears_95 rfl rfl ?_
          refine V_getR C ck_12 fw_X12_49 d_X12_hears_96 h (fun v4 h => ?_)
          refine V_iload (j := 4) C d_X12_hears_99 rfl ?_
          refine V_iconst C d_X12_hears_101 ?_
          refine V_isub C d_X12_hears_102 ?_
          refine V_iald C d_X12_hears_103 (ok_wr _) h (fun v5 o5 h => ?_)
          refine V_goto (tgt := 108) C d_X12_hears_104 (by decide) ?_
          refine V_lv [0, 1, 2, 3, 4] rfl (t_X12_hears_108 C hR M x0 x1 x2 x3 x4 v5 (wr_i (x2 + 4)) x0 o_x1 o_x2 o_x3 o_x4 o5 (ok_wr _) k_2 hk_2 (fun M x4 => f_X12_hears_65 G.2.2.2 k_2 x0 x1 x2 x3 n M x4) (fun M x4 o_x4 h9 => ih M x4 o_x4 h9) h)
    · skip
      refine V_iinc (j := 1) (lv' := [(1, iv_i (wr_i (x1 + 1))), (0, .ref (G.1 + x0)), (2, iv_i x2), (3, iv_i x3), (4, iv_i x4)]) C d_X12_hears_221 rfl (by decide) rfl ?_
      refine V_goto (tgt := 2) C d_X12_hears_224 (by decide) ?_
      refine V_lv [1, 0] rfl (hk_2 M (wr_i (x1 + 1)) (ok_wr _) h)
set_option maxHeartbeats 4000000 in
set_option maxRecDepth 100000 in
theorem t_X12_hears_31 {X : XT_x} {G : GT_g} {z : Mem_m} (C : Cx_ (K_X12_hears) X G) (hR : Rx_ X G none) (x0 : Nat) (x1 : Int) (x2 : Int) (x3 : Int) (o_x1 : ok_i x1) (o_x2 : ok_i x2) (o_x3 : ok_i x3) (k_2 : Mem_m → Int → Option Mem_m) (hk_2 : ∀ (M : Mem_m) (x1 : Int) (o_x1 : ok_i x1), k_2 M x1 = some z → V_ (K_X12_hears) X G (Fq_ X G (Qv_ G z)) M 2 [(0, .ref (G.1 + x0)), (1, iv_i x1)] []) : ∀ (n : Nat) (M : Mem_m) (x4 : Int) (o_x4 : ok_i x4), f_X12_hears_31 G.2.2.2 k_2 x0 x1 x2 x3 n M x4 = some z → V_ (K_X12_hears) X G (Fq_ X G (Qv_ G z)) M 31 [(0, .ref (G.1 + x0)), (1, iv_i x1), (2, iv_i x2), (3, iv_i x3), (4, iv_i x4)] [] := by
  intro n
  induction n with
  | zero => intro M x4 o_x4 h; exact absurd h (by simp [f_X12_hears_31])
  | succ n ih =>
    intro M x4 o_x4 h
    unfold f_X12_hears_31 at h
    refine V_iload (j := 4) C d_X12_hears_31 rfl ?_
    refine V_iload_n (j := 3) C d_X12_hears_33 rfl rfl ?_
    refine V_icmp_ge (tgt := 57) C d_X12_hears_34 (by decide) o_x4 o_x3 h (fun h => ?_) (fun h => ?_)
    · skip
      refine V_aload_n (j := 0) C d_X12_hears_37 rfl rfl ?_
      refine V_getR C ck_12 fw_X12_49 d_X12_hears_38 h (fun v1 h => ?_)
      refine V_iload (j := 4) C d_X12_hears_41 rfl ?_
      refine V_aload_n (j := 0) C d_X12_hears_43 rfl rfl ?_
      refine V_getR C ck_12 fw_X12_46 d_X12_hears_44 h (fun v2 h => ?_)
      refine V_iload (j := 4) C d_X12_hears_47 rfl ?_
      refine V_iald C d_X12_hears_49 o_x4 h (fun v3 o3 h => ?_)
      refine V_iast C d_X12_hears_50 o_x4 o3 h (fun M4 h => ?_)
      refine V_iinc (j := 4) (lv' := [(4, iv_i (wr_i (x4 + 1))), (0, .ref (G.1 + x0)), (1, iv_i x1), (2, iv_i x2), (3, iv_i x3)]) C d_X12_hears_51 rfl (by decide) rfl ?_
      refine V_goto (tgt := 31) C d_X12_hears_54 (by decide) ?_
      refine V_lv [1, 2, 3, 4, 0] rfl (ih M4 (wr_i (x4 + 1)) (ok_wr _) h)
    · skip
      refine V_aload_n (j := 0) C d_X12_hears_57 rfl rfl ?_
      refine V_iconst C d_X12_hears_58 ?_
      refine V_putI C ck_12 fw_X12_194 fp_12_20 d_X12_hears_59 (okc rfl) h (fun M5 h => ?_)
      refine V_iconst C d_X12_hears_62 ?_
      refine V_istore (lv' := [(4, iv_i 0), (0, .ref (G.1 + x0)), (1, iv_i x1), (2, iv_i x2), (3, iv_i x3)]) C d_X12_hears_63 (by decide) rfl ?_
      refine V_lv [1, 2, 3, 4, 0] rfl (t_X12_hears_65 C hR x0 x1 x2 x3 o_x1 o_x2 o_x3 k_2 hk_2 FU_ M5 0 (okc rfl) h)
set_option maxHeartbeats 4000000 in
set_option maxRecDepth 100000 in
theorem t_X12_hears_2 {X : XT_x} {G : GT_g} {z : Mem_m} (C : Cx_ (K_X12_hears) X G) (hR : Rx_ X G none) (x0 : Nat) : ∀ (n : Nat) (M : Mem_m) (x1 : Int) (o_x1 : ok_i x1), f_X12_hears_2 G.2.2.2 x0 n M x1 = some z → V_ (K_X12_hears) X G (Fq_ X G (Qv_ G z)) M 2 [(0, .ref (G.1 + x0)), (1, iv_i x1)] [] := by
  intro n
  induction n with
  | zero => intro M x1 o_x1 h; exact absurd h (by simp [f_X12_hears_2])
  | succ n ih =>
    intro M x1 o_x1 h
    unfold f_X12_hears_2 at h
    refine V_iload_n (j := 1) C d_X12_hears_2 rfl rfl ?_
    refine V_aload_n (j := 0) C d_X12_hears_3 rfl rfl ?_
    refine V_getR C ck_12 fw_X12_9 d_X12_hears_4 h (fun v1 h => ?_)
    refine V_sipush (v := 1064) C d_X12_hears_7 rfl ?_
    refine V_iald C d_X12_hears_10 (okc rfl) h (fun v2 o2 h => ?_)
    refine V_icmp_ge (tgt := 227) C d_X12_hears_11 (by decide) o_x1 o2 h (fun h => ?_) (fun h => ?_)
    · skip
      refine V_sipush (v := 712) C d_X12_hears_14 rfl ?_
      refine V_bipush (v := 8) C d_X12_hears_17 rfl ?_
      refine V_iload_n (j := 1) C d_X12_hears_19 rfl rfl ?_
      refine V_imul C d_X12_hears_20 ?_
      refine V_iadd C d_X12_hears_21 ?_
      refine V_istore_n (lv' := [(2, iv_i (wr_i (712 + (wr_i (8 * x1))))), (0, .ref (G.1 + x0)), (1, iv_i x1)]) C d_X12_hears_22 rfl (by decide) rfl ?_
      refine V_aload_n (j := 1) C d_X12_hears_23 rfl rfl ?_
      refine V_getI C ck_12 fw_X12_194 d_X12_hears_24 h (fun v3 o3 h => ?_)
      refine V_istore_n (lv' := [(3, iv_i v3), (2, iv_i (wr_i (712 + (wr_i (8 * x1))))), (0, .ref (G.1 + x0)), (1, iv_i x1)]) C d_X12_hears_27 rfl (by decide) rfl ?_
      refine V_iconst C d_X12_hears_28 ?_
      refine V_istore (lv' := [(4, iv_i 0), (3, iv_i v3), (2, iv_i (wr_i (712 + (wr_i (8 * x1))))), (0, .ref (G.1 + x0)), (1, iv_i x1)]) C d_X12_hears_29 (by decide) rfl ?_
      refine V_lv [3, 4, 2, 1, 0] rfl (t_X12_hears_31 C hR x0 x1 (wr_i (712 + (wr_i (8 * x1)))) v3 o_x1 (ok_wr _) o3 (fun M x1 => f_X12_hears_2 G.2.2.2 x0 n M x1) (fun M x1 o_x1 h9 => ih M x1 o_x1 h9) FU_ M 0 (okc rfl) h)
    · skip
      exact V_vret C hR d_X12_hears_227 (Option.some.inj h)
set_option maxHeartbeats 4000000 in
set_option maxRecDepth 100000 in
theorem t_X12_hears {X : XT_x} {G : GT_g} {M : Mem_m} {z : Mem_m} (C : Cx_ (K_X12_hears) X G) (hR : Rx_ X G none) (x0 : Nat)  (h : f_X12_hears G.2.2.2 M x0 = some z) : V_ (K_X12_hears) X G (Fq_ X G (Qv_ G z)) M 0 [(0, .ref (G.1 + x0))] [] := by
  unfold f_X12_hears at h
  refine V_iconst C d_X12_hears_0 ?_
  refine V_istore_n (lv' := [(1, iv_i 0), (0, .ref (G.1 + x0))]) C d_X12_hears_1 rfl (by decide) rfl ?_
  refine V_lv [1, 0] rfl (t_X12_hears_2 C hR x0 FU_ M 0 (okc rfl) h)
set_option maxHeartbeats 4000000 in
set_option maxRecDepth 100000 in
theorem ct_X12_hears {l : Launch} {G : GT_g} {M : Mem_m} (x0 : Nat)  {z : Mem_m} (h : f_X12_hears G.2.2.2 M x0 = some z) : MV_ l yX12_hears K_X12_hears none G M [.ref (G.1 + x0)] z :=
  met_of (by decide +kernel) rfl (Nat.le_of_ble_eq_true rfl) (fun X hl C hR => by subst hl; exact t_X12_hears C hR x0  h)
theorem d_X12_heard_0 : decode cX12_heard 0 = .ok (.iload_n 1, 1) := by decide +kernel
theorem d_X12_heard_1 : decode cX12_heard 1 = .ok (.invokestatic 75, 3) := by decide +kernel
theorem d_X12_heard_4 : decode cX12_heard 4 = .ok (.ifCond .eq 10, 3) := by decide +kernel
theorem d_X12_heard_7 : decode cX12_heard 7 = .ok (.iload_n 2, 1) := by decide +kernel
theorem d_X12_heard_8 : decode cX12_heard 8 = .ok (.invokestatic 75, 3) := by decide +kernel
theorem d_X12_heard_11 : decode cX12_heard 11 = .ok (.ifCond .ne 5, 3) := by decide +kernel
theorem d_X12_heard_14 : decode cX12_heard 14 = .ok (.iconst (-1), 1) := by decide +kernel
theorem d_X12_heard_15 : decode cX12_heard 15 = .ok (.ireturn, 1) := by decide +kernel
theorem d_X12_heard_16 : decode cX12_heard 16 = .ok (.aload_n 0, 1) := by decide +kernel
theorem d_X12_heard_17 : decode cX12_heard 17 = .ok (.iload_n 1, 1) := by decide +kernel
theorem d_X12_heard_18 : decode cX12_heard 18 = .ok (.iconst 0, 1) := by decide +kernel
theorem d_X12_heard_19 : decode cX12_heard 19 = .ok (.bipush 80, 2) := by decide +kernel
theorem d_X12_heard_21 : decode cX12_heard 21 = .ok (.invokevirtual 89, 3) := by decide +kernel
theorem d_X12_heard_24 : decode cX12_heard 24 = .ok (.istore_n 3, 1) := by decide +kernel
theorem d_X12_heard_25 : decode cX12_heard 25 = .ok (.iload_n 3, 1) := by decide +kernel
theorem d_X12_heard_26 : decode cX12_heard 26 = .ok (.ifCond .eq 5, 3) := by decide +kernel
theorem d_X12_heard_29 : decode cX12_heard 29 = .ok (.iload_n 3, 1) := by decide +kernel
theorem d_X12_heard_30 : decode cX12_heard 30 = .ok (.ireturn, 1) := by decide +kernel
theorem d_X12_heard_31 : decode cX12_heard 31 = .ok (.aload_n 0, 1) := by decide +kernel
theorem d_X12_heard_32 : decode cX12_heard 32 = .ok (.aload_n 0, 1) := by decide +kernel
theorem d_X12_heard_33 : decode cX12_heard 33 = .ok (.getfield 22, 3) := by decide +kernel
theorem d_X12_heard_36 : decode cX12_heard 36 = .ok (.iload_n 1, 1) := by decide +kernel
theorem d_X12_heard_37 : decode cX12_heard 37 = .ok (.iaload, 1) := by decide +kernel
theorem d_X12_heard_38 : decode cX12_heard 38 = .ok (.putfield 194, 3) := by decide +kernel
theorem d_X12_heard_41 : decode cX12_heard 41 = .ok (.iconst 0, 1) := by decide +kernel
theorem d_X12_heard_42 : decode cX12_heard 42 = .ok (.istore 4, 2) := by decide +kernel
theorem d_X12_heard_44 : decode cX12_heard 44 = .ok (.iload 4, 2) := by decide +kernel
theorem d_X12_heard_46 : decode cX12_heard 46 = .ok (.aload_n 0, 1) := by decide +kernel
theorem d_X12_heard_47 : decode cX12_heard 47 = .ok (.getfield 194, 3) := by decide +kernel
theorem d_X12_heard_50 : decode cX12_heard 50 = .ok (.if_icmp .ge 28, 3) := by decide +kernel
theorem d_X12_heard_53 : decode cX12_heard 53 = .ok (.aload_n 0, 1) := by decide +kernel
theorem d_X12_heard_54 : decode cX12_heard 54 = .ok (.getfield 46, 3) := by decide +kernel
theorem d_X12_heard_57 : decode cX12_heard 57 = .ok (.iload 4, 2) := by decide +kernel
theorem d_X12_heard_59 : decode cX12_heard 59 = .ok (.aload_n 0, 1) := by decide +kernel
theorem d_X12_heard_60 : decode cX12_heard 60 = .ok (.getfield 25, 3) := by decide +kernel
theorem d_X12_heard_63 : decode cX12_heard 63 = .ok (.bipush 80, 2) := by decide +kernel
theorem d_X12_heard_65 : decode cX12_heard 65 = .ok (.iload_n 1, 1) := by decide +kernel
theorem d_X12_heard_66 : decode cX12_heard 66 = .ok (.imul, 1) := by decide +kernel
theorem d_X12_heard_67 : decode cX12_heard 67 = .ok (.iload 4, 2) := by decide +kernel
theorem d_X12_heard_69 : decode cX12_heard 69 = .ok (.iadd, 1) := by decide +kernel
theorem d_X12_heard_70 : decode cX12_heard 70 = .ok (.iaload, 1) := by decide +kernel
theorem d_X12_heard_71 : decode cX12_heard 71 = .ok (.iastore, 1) := by decide +kernel
theorem d_X12_heard_72 : decode cX12_heard 72 = .ok (.iinc 4 1, 3) := by decide +kernel
theorem d_X12_heard_75 : decode cX12_heard 75 = .ok (.goto (-31), 3) := by decide +kernel
theorem d_X12_heard_78 : decode cX12_heard 78 = .ok (.aload_n 0, 1) := by decide +kernel
theorem d_X12_heard_79 : decode cX12_heard 79 = .ok (.invokevirtual 200, 3) := by decide +kernel
theorem d_X12_heard_82 : decode cX12_heard 82 = .ok (.aload_n 0, 1) := by decide +kernel
theorem d_X12_heard_83 : decode cX12_heard 83 = .ok (.getfield 16, 3) := by decide +kernel
theorem d_X12_heard_86 : decode cX12_heard 86 = .ok (.iload_n 2, 1) := by decide +kernel
theorem d_X12_heard_87 : decode cX12_heard 87 = .ok (.iconst 2, 1) := by decide +kernel
theorem d_X12_heard_88 : decode cX12_heard 88 = .ok (.iastore, 1) := by decide +kernel
theorem d_X12_heard_89 : decode cX12_heard 89 = .ok (.aload_n 0, 1) := by decide +kernel
theorem d_X12_heard_90 : decode cX12_heard 90 = .ok (.getfield 19, 3) := by decide +kernel
theorem d_X12_heard_93 : decode cX12_heard 93 = .ok (.iload_n 2, 1) := by decide +kernel
theorem d_X12_heard_94 : decode cX12_heard 94 = .ok (.iconst 0, 1) := by decide +kernel
theorem d_X12_heard_95 : decode cX12_heard 95 = .ok (.iastore, 1) := by decide +kernel
theorem d_X12_heard_96 : decode cX12_heard 96 = .ok (.aload_n 0, 1) := by decide +kernel
theorem d_X12_heard_97 : decode cX12_heard 97 = .ok (.getfield 22, 3) := by decide +kernel
theorem d_X12_heard_100 : decode cX12_heard 100 = .ok (.iload_n 2, 1) := by decide +kernel
theorem d_X12_heard_101 : decode cX12_heard 101 = .ok (.aload_n 0, 1) := by decide +kernel
theorem d_X12_heard_102 : decode cX12_heard 102 = .ok (.getfield 194, 3) := by decide +kernel
theorem d_X12_heard_105 : decode cX12_heard 105 = .ok (.iastore, 1) := by decide +kernel
theorem d_X12_heard_106 : decode cX12_heard 106 = .ok (.iconst 0, 1) := by decide +kernel
theorem d_X12_heard_107 : decode cX12_heard 107 = .ok (.istore 4, 2) := by decide +kernel
theorem d_X12_heard_109 : decode cX12_heard 109 = .ok (.iload 4, 2) := by decide +kernel
theorem d_X12_heard_111 : decode cX12_heard 111 = .ok (.bipush 80, 2) := by decide +kernel
theorem d_X12_heard_113 : decode cX12_heard 113 = .ok (.if_icmp .ge 41, 3) := by decide +kernel
theorem d_X12_heard_116 : decode cX12_heard 116 = .ok (.aload_n 0, 1) := by decide +kernel
theorem d_X12_heard_117 : decode cX12_heard 117 = .ok (.getfield 25, 3) := by decide +kernel
theorem d_X12_heard_120 : decode cX12_heard 120 = .ok (.bipush 80, 2) := by decide +kernel
theorem d_X12_heard_122 : decode cX12_heard 122 = .ok (.iload_n 2, 1) := by decide +kernel
theorem d_X12_heard_123 : decode cX12_heard 123 = .ok (.imul, 1) := by decide +kernel
theorem d_X12_heard_124 : decode cX12_heard 124 = .ok (.iload 4, 2) := by decide +kernel
theorem d_X12_heard_126 : decode cX12_heard 126 = .ok (.iadd, 1) := by decide +kernel
theorem d_X12_heard_127 : decode cX12_heard 127 = .ok (.iload 4, 2) := by decide +kernel
theorem d_X12_heard_129 : decode cX12_heard 129 = .ok (.aload_n 0, 1) := by decide +kernel
theorem d_X12_heard_130 : decode cX12_heard 130 = .ok (.getfield 194, 3) := by decide +kernel
theorem d_X12_heard_133 : decode cX12_heard 133 = .ok (.if_icmp .ge 13, 3) := by decide +kernel
theorem d_X12_heard_136 : decode cX12_heard 136 = .ok (.aload_n 0, 1) := by decide +kernel
theorem d_X12_heard_137 : decode cX12_heard 137 = .ok (.getfield 46, 3) := by decide +kernel
theorem d_X12_heard_140 : decode cX12_heard 140 = .ok (.iload 4, 2) := by decide +kernel
theorem d_X12_heard_142 : decode cX12_heard 142 = .ok (.iaload, 1) := by decide +kernel
theorem d_X12_heard_143 : decode cX12_heard 143 = .ok (.goto 4, 3) := by decide +kernel
theorem d_X12_heard_146 : decode cX12_heard 146 = .ok (.iconst 0, 1) := by decide +kernel
theorem d_X12_heard_147 : decode cX12_heard 147 = .ok (.iastore, 1) := by decide +kernel
theorem d_X12_heard_148 : decode cX12_heard 148 = .ok (.iinc 4 1, 3) := by decide +kernel
theorem d_X12_heard_151 : decode cX12_heard 151 = .ok (.goto (-42), 3) := by decide +kernel
theorem d_X12_heard_154 : decode cX12_heard 154 = .ok (.aload_n 0, 1) := by decide +kernel
theorem d_X12_heard_155 : decode cX12_heard 155 = .ok (.getfield 194, 3) := by decide +kernel
theorem d_X12_heard_158 : decode cX12_heard 158 = .ok (.ireturn, 1) := by decide +kernel
set_option maxHeartbeats 4000000 in
set_option maxRecDepth 100000 in
theorem t_X12_heard_109 {X : XT_x} {G : GT_g} {z : (Mem_m × Int)} (C : Cx_ (K_X12_heard) X G) (hR : Rx_ X G (some .int)) (x0 : Nat) (x2 : Int) (o_x2 : ok_i x2) : ∀ (n : Nat) (M : Mem_m) (x4 : Int) (o_x4 : ok_i x4), f_X12_heard_109 G.2.2.2 x0 x2 n M x4 = some z → V_ (K_X12_heard) X G (Fq_ X G (Qi_ G z.1 z.2)) M 109 [(0, .ref (G.1 + x0)), (2, iv_i x2), (4, iv_i x4)] [] := by
  intro n
  induction n with
  | zero => intro M x4 o_x4 h; exact absurd h (by simp [f_X12_heard_109])
  | succ n ih =>
    intro M x4 o_x4 h
    unfold f_X12_heard_109 at h
    refine V_iload (j := 2) C d_X12_heard_109 rfl ?_
    refine V_bipush (v := 80) C d_X12_heard_111 rfl ?_
    refine V_icmp_ge (tgt := 154) C d_X12_heard_113 (by decide) o_x4 (okc rfl) h (fun h => ?_) (fun h => ?_)
    · skip
      refine V_aload_n (j := 0) C d_X12_heard_116 rfl rfl ?_
      refine V_getR C ck_12 fw_X12_25 d_X12_heard_117 h (fun v1 h => ?_)
      refine V_bipush (v := 80) C d_X12_heard_120 rfl ?_
      refine V_iload_n (j := 1) C d_X12_heard_122 rfl rfl ?_
      refine V_imul C d_X12_heard_123 ?_
      refine V_iload (j := 2) C d_X12_heard_124 rfl ?_
      refine V_iadd C d_X12_heard_126 ?_
      refine V_iload (j := 2) C d_X12_heard_127 rfl ?_
      refine V_aload_n (j := 0) C d_X12_heard_129 rfl rfl ?_
      refine V_getI C ck_12 fw_X12_194 d_X12_heard_130 h (fun v2 o2 h => ?_)
      refine V_icmp_ge (tgt := 146) C d_X12_heard_133 (by decide) o_x4 o2 h (fun h => ?_) (fun h => ?_)
      · skip
        refine V_aload_n (j := 0) C d_X12_heard_136 rfl rfl ?_
        refine V_getR C ck_12 fw_X12_46 d_X12_heard_137 h (fun v3 h => ?_)
        refine V_iload (j := 2) C d_X12_heard_140 rfl ?_
        refine V_iald C d_X12_heard_142 o_x4 h (fun v4 o4 h => ?_)
        refine V_goto (tgt := 147) C d_X12_heard_143 (by decide) ?_
        refine V_iast C d_X12_heard_147 (ok_wr _) o4 h (fun M5 h => ?_)
        refine V_iinc (j := 2) (lv' := [(4, iv_i (wr_i (x4 + 1))), (0, .ref (G.1 + x0)), (2, iv_i x2)]) C d_X12_heard_148 rfl (by decide) rfl ?_
        refine V_goto (tgt := 109) C d_X12_heard_151 (by decide) ?_
        refine V_lv [1, 2, 0] rfl (ih M5 (wr_i (x4 + 1)) (ok_wr _) h)
      · skip
        refine V_iconst C d_X12_heard_146 ?_
        refine V_iast C d_X12_heard_147 (ok_wr _) (okc rfl) h (fun M6 h => ?_)
        refine V_iinc (j := 2) (lv' := [(4, iv_i (wr_i (x4 + 1))), (0, .ref (G.1 + x0)), (2, iv_i x2)]) C d_X12_heard_148 rfl (by decide) rfl ?_
        refine V_goto (tgt := 109) C d_X12_heard_151 (by decide) ?_
        refine V_lv [1, 2, 0] rfl (ih M6 (wr_i (x4 + 1)) (ok_wr _) h)
    · skip
      refine V_aload_n (j := 0) C d_X12_heard_154 rfl rfl ?_
      refine V_getI C ck_12 fw_X12_194 d_X12_heard_155 h (fun v7 o7 h => ?_)
      exact V_iret_w C hR d_X12_heard_158 o7 h
set_option maxHeartbeats 4000000 in
set_option maxRecDepth 100000 in
theorem t_X12_heard_44 {X : XT_x} {G : GT_g} {z : (Mem_m × Int)} (C : Cx_ (K_X12_heard) X G) (hR : Rx_ X G (some .int)) (x0 : Nat) (x1 : Int) (x2 : Int) (o_x1 : ok_i x1) (o_x2 : ok_i x2) : ∀ (n : Nat) (M : Mem_m) (x4 : Int) (o_x4 : ok_i x4), f_X12_heard_44 G.2.2.2 x0 x1 x2 n M x4 = some z → V_ (K_X12_heard) X G (Fq_ X G (Qi_ G z.1 z.2)) M 44 [(0, .ref (G.1 + x0)), (1, iv_i x1), (2, iv_i x2), (4, iv_i x4)] [] := by
  intro n
  induction n with
  | zero => intro M x4 o_x4 h; exact absurd h (by simp [f_X12_heard_44])
  | succ n ih =>
    intro M x4 o_x4 h
    unfold f_X12_heard_44 at h
    refine V_iload (j := 3) C d_X12_heard_44 rfl ?_
    refine V_aload_n (j := 0) C d_X12_heard_46 rfl rfl ?_
    refine V_getI C ck_12 fw_X12_194 d_X12_heard_47 h (fun v1 o1 h => ?_)
    refine V_icmp_ge (tgt := 78) C d_X12_heard_50 (by decide) o_x4 o1 h (fun h => ?_) (fun h => ?_)
    · skip
      refine V_aload_n (j := 0) C d_X12_heard_53 rfl rfl ?_
      refine V_getR C ck_12 fw_X12_46 d_X12_heard_54 h (fun v2 h => ?_)
      refine V_iload (j := 3) C d_X12_heard_57 rfl ?_
      refine V_aload_n (j := 0) C d_X12_heard_59 rfl rfl ?_
      refine V_getR C ck_12 fw_X12_25 d_X12_heard_60 h (fun v3 h => ?_)
      refine V_bipush (v := 80) C d_X12_heard_63 rfl ?_
      refine V_iload_n (j := 1) C d_X12_heard_65 rfl rfl ?_
      refine V_imul C d_X12_heard_66 ?_
      refine V_iload (j := 3) C d_X12_heard_67 rfl ?_
      refine V_iadd C d_X12_heard_69 ?_
      refine V_iald C d_X12_heard_70 (ok_wr _) h (fun v4 o4 h => ?_)
      refine V_iast C d_X12_heard_71 o_x4 o4 h (fun M5 h => ?_)
      refine V_iinc (j := 3) (lv' := [(4, iv_i (wr_i (x4 + 1))), (0, .ref (G.1 + x0)), (1, iv_i x1), (2, iv_i x2)]) C d_X12_heard_72 rfl (by decide) rfl ?_
      refine V_goto (tgt := 44) C d_X12_heard_75 (by decide) ?_
      refine V_lv [1, 2, 3, 0] rfl (ih M5 (wr_i (x4 + 1)) (ok_wr _) h)
    · skip
      refine V_aload_n (j := 0) C d_X12_heard_78 rfl rfl ?_
      refine V_callVwv (K' := K_X12_hears) (a := x0) (ci := 12) (av := []) (rest := []) yi_X12_hears (by decide) rfl C (yk_X12_hears) l1_X12_200 (by decide) d_X12_heard_79 (fun v hv => ct_X12_hears x0 hv) rfl rfl (Nat.le_of_ble_eq_true rfl) h (fun M6 h => ?_)
      refine V_aload_n (j := 0) C d_X12_heard_82 rfl rfl ?_
      refine V_getR C ck_12 fw_X12_16 d_X12_heard_83 h (fun v7 h => ?_)
      refine V_iload_n (j := 2) C d_X12_heard_86 rfl rfl ?_
      refine V_iconst C d_X12_heard_87 ?_
      refine V_iast C d_X12_heard_88 o_x2 (okc rfl) h (fun M8 h => ?_)
      refine V_aload_n (j := 0) C d_X12_heard_89 rfl rfl ?_
      refine V_getR C ck_12 fw_X12_19 d_X12_heard_90 h (fun v9 h => ?_)
      refine V_iload_n (j := 2) C d_X12_heard_93 rfl rfl ?_
      refine V_iconst C d_X12_heard_94 ?_
      refine V_iast C d_X12_heard_95 o_x2 (okc rfl) h (fun M10 h => ?_)
      refine V_aload_n (j := 0) C d_X12_heard_96 rfl rfl ?_
      refine V_getR C ck_12 fw_X12_22 d_X12_heard_97 h (fun v11 h => ?_)
      refine V_iload_n (j := 2) C d_X12_heard_100 rfl rfl ?_
      refine V_aload_n (j := 0) C d_X12_heard_101 rfl rfl ?_
      refine V_getI C ck_12 fw_X12_194 d_X12_heard_102 h (fun v12 o12 h => ?_)
      refine V_iast C d_X12_heard_105 o_x2 o12 h (fun M13 h => ?_)
      refine V_iconst C d_X12_heard_106 ?_
      refine V_istore (lv' := [(4, iv_i 0), (0, .ref (G.1 + x0)), (1, iv_i x1), (2, iv_i x2)]) C d_X12_heard_107 (by decide) rfl ?_
      refine V_lv [1, 3, 0] rfl (t_X12_heard_109 C hR x0 x2 o_x2 FU_ M13 0 (okc rfl) h)
set_option maxHeartbeats 4000000 in
set_option maxRecDepth 100000 in
theorem t_X12_heard {X : XT_x} {G : GT_g} {M : Mem_m} {z : (Mem_m × Int)} (C : Cx_ (K_X12_heard) X G) (hR : Rx_ X G (some .int)) (x0 : Nat) (x1 : Int) (x2 : Int) (o_x1 : ok_i x1) (o_x2 : ok_i x2) (h : f_X12_heard G.2.2.2 M x0 x1 x2 = some z) : V_ (K_X12_heard) X G (Fq_ X G (Qi_ G z.1 z.2)) M 0 [(0, .ref (G.1 + x0)), (1, iv_i x1), (2, iv_i x2)] [] := by
  unfold f_X12_heard at h
  refine V_iload_n (j := 1) C d_X12_heard_0 rfl rfl ?_
  refine V_callSri (K' := K_X12_isShelf) (av := [iv_i x1]) (rest := []) ys_X12_isShelf C (yk_X12_isShelf) l1_X12_75 (by decide) d_X12_heard_1 (fun v hv => ct_X12_isShelf x1 o_x1 hv) rfl rfl (Nat.le_of_ble_eq_true rfl) h (fun v1 o1 h => ?_)
  refine V_if_eq (tgt := 14) C d_X12_heard_4 (by decide) o1 h (fun h => ?_) (fun h => ?_)
  · skip
    refine V_iconst C d_X12_heard_14 ?_
    exact V_iret_w C hR d_X12_heard_15 (okc rfl) h
  · skip
    refine V_iload_n (j := 2) C d_X12_heard_7 rfl rfl ?_
    refine V_callSri (K' := K_X12_isShelf) (av := [iv_i x2]) (rest := []) ys_X12_isShelf C (yk_X12_isShelf) l1_X12_75 (by decide) d_X12_heard_8 (fun v hv => ct_X12_isShelf x2 o_x2 hv) rfl rfl (Nat.le_of_ble_eq_true rfl) h (fun v2 o2 h => ?_)
    refine V_if_ne (tgt := 16) C d_X12_heard_11 (by decide) o2 h (fun h => ?_) (fun h => ?_)
    · skip
      refine V_iconst C d_X12_heard_14 ?_
      exact V_iret_w C hR d_X12_heard_15 (okc rfl) h
    · skip
      refine V_aload_n (j := 0) C d_X12_heard_16 rfl rfl ?_
      refine V_iload_n (j := 1) C d_X12_heard_17 rfl rfl ?_
      refine V_iconst C d_X12_heard_18 ?_
      refine V_bipush (v := 80) C d_X12_heard_19 rfl ?_
      refine V_callVri (K' := K_X12_wrongSounds) (a := x0) (ci := 12) (av := [iv_i x1, iv_i 0, iv_i 80]) (rest := []) yi_X12_wrongSounds (by decide) rfl C (yk_X12_wrongSounds) l1_X12_89 (by decide) d_X12_heard_21 (fun v hv => ct_X12_wrongSounds x0 x1 0 80 o_x1 (okc rfl) (okc rfl) hv) rfl rfl (Nat.le_of_ble_eq_true rfl) h (fun v3 o3 h => ?_)
      refine V_istore_n (lv' := [(3, iv_i v3), (0, .ref (G.1 + x0)), (1, iv_i x1), (2, iv_i x2)]) C d_X12_heard_24 rfl (by decide) rfl ?_
      refine V_iload_n (j := 0) C d_X12_heard_25 rfl rfl ?_
      refine V_if_eq (tgt := 31) C d_X12_heard_26 (by decide) o3 h (fun h => ?_) (fun h => ?_)
      · skip
        refine V_aload_n (j := 1) C d_X12_heard_31 rfl rfl ?_
        refine V_aload_n (j := 1) C d_X12_heard_32 rfl rfl ?_
        refine V_getR C ck_12 fw_X12_22 d_X12_heard_33 h (fun v4 h => ?_)
        refine V_iload_n (j := 2) C d_X12_heard_36 rfl rfl ?_
        refine V_iald C d_X12_heard_37 o_x1 h (fun v5 o5 h => ?_)
        refine V_putI C ck_12 fw_X12_194 fp_12_20 d_X12_heard_38 o5 h (fun M6 h => ?_)
        refine V_iconst C d_X12_heard_41 ?_
        refine V_istore (lv' := [(4, iv_i 0), (3, iv_i v3), (0, .ref (G.1 + x0)), (1, iv_i x1), (2, iv_i x2)]) C d_X12_heard_42 (by decide) rfl ?_
        refine V_lv [2, 3, 4, 0] rfl (t_X12_heard_44 C hR x0 x1 x2 o_x1 o_x2 FU_ M6 0 (okc rfl) h)
      · skip
        refine V_iload_n (j := 0) C d_X12_heard_29 rfl rfl ?_
        exact V_iret_w C hR d_X12_heard_30 o3 h
set_option maxHeartbeats 4000000 in
set_option maxRecDepth 100000 in
theorem ct_X12_heard {l : Launch} {G : GT_g} {M : Mem_m} (x0 : Nat) (x1 : Int) (x2 : Int) (o_x1 : ok_i x1) (o_x2 : ok_i x2) {z : (Mem_m × Int)} (h : f_X12_heard G.2.2.2 M x0 x1 x2 = some z) : MI_ l yX12_heard K_X12_heard (some .int) G M [.ref (G.1 + x0), iv_i x1, iv_i x2] z.1 z.2 :=
  met_of (by decide +kernel) rfl (Nat.le_of_ble_eq_true rfl) (fun X hl C hR => by subst hl; exact t_X12_heard C hR x0 x1 x2 o_x1 o_x2 h)
theorem d_X12_adds_0 : decode cX12_adds 0 = .ok (.iconst 0, 1) := by decide +kernel
theorem d_X12_adds_1 : decode cX12_adds 1 = .ok (.istore_n 2, 1) := by decide +kernel
theorem d_X12_adds_2 : decode cX12_adds 2 = .ok (.iload_n 2, 1) := by decide +kernel
theorem d_X12_adds_3 : decode cX12_adds 3 = .ok (.aload_n 0, 1) := by decide +kernel
theorem d_X12_adds_4 : decode cX12_adds 4 = .ok (.iload_n 1, 1) := by decide +kernel
theorem d_X12_adds_5 : decode cX12_adds 5 = .ok (.invokevirtual 136, 3) := by decide +kernel
theorem d_X12_adds_8 : decode cX12_adds 8 = .ok (.if_icmp .ge 34, 3) := by decide +kernel
theorem d_X12_adds_11 : decode cX12_adds 11 = .ok (.aload_n 0, 1) := by decide +kernel
theorem d_X12_adds_12 : decode cX12_adds 12 = .ok (.getfield 46, 3) := by decide +kernel
theorem d_X12_adds_15 : decode cX12_adds 15 = .ok (.aload_n 0, 1) := by decide +kernel
theorem d_X12_adds_16 : decode cX12_adds 16 = .ok (.getfield 194, 3) := by decide +kernel
theorem d_X12_adds_19 : decode cX12_adds 19 = .ok (.aload_n 0, 1) := by decide +kernel
theorem d_X12_adds_20 : decode cX12_adds 20 = .ok (.iload_n 1, 1) := by decide +kernel
theorem d_X12_adds_21 : decode cX12_adds 21 = .ok (.iload_n 2, 1) := by decide +kernel
theorem d_X12_adds_22 : decode cX12_adds 22 = .ok (.invokevirtual 140, 3) := by decide +kernel
theorem d_X12_adds_25 : decode cX12_adds 25 = .ok (.iastore, 1) := by decide +kernel
theorem d_X12_adds_26 : decode cX12_adds 26 = .ok (.aload_n 0, 1) := by decide +kernel
theorem d_X12_adds_27 : decode cX12_adds 27 = .ok (.dup, 1) := by decide +kernel
theorem d_X12_adds_28 : decode cX12_adds 28 = .ok (.getfield 194, 3) := by decide +kernel
theorem d_X12_adds_31 : decode cX12_adds 31 = .ok (.iconst 1, 1) := by decide +kernel
theorem d_X12_adds_32 : decode cX12_adds 32 = .ok (.iadd, 1) := by decide +kernel
theorem d_X12_adds_33 : decode cX12_adds 33 = .ok (.putfield 194, 3) := by decide +kernel
theorem d_X12_adds_36 : decode cX12_adds 36 = .ok (.iinc 2 1, 3) := by decide +kernel
theorem d_X12_adds_39 : decode cX12_adds 39 = .ok (.goto (-37), 3) := by decide +kernel
theorem d_X12_adds_42 : decode cX12_adds 42 = .ok (.return_, 1) := by decide +kernel
set_option maxHeartbeats 4000000 in
set_option maxRecDepth 100000 in
theorem t_X12_adds_2 {X : XT_x} {G : GT_g} {z : Mem_m} (C : Cx_ (K_X12_adds) X G) (hR : Rx_ X G none) (x0 : Nat) (x1 : Int) (o_x1 : ok_i x1) : ∀ (n : Nat) (M : Mem_m) (x2 : Int) (o_x2 : ok_i x2), f_X12_adds_2 G.2.2.2 x0 x1 n M x2 = some z → V_ (K_X12_adds) X G (Fq_ X G (Qv_ G z)) M 2 [(0, .ref (G.1 + x0)), (1, iv_i x1), (2, iv_i x2)] [] := by
  intro n
  induction n with
  | zero => intro M x2 o_x2 h; exact absurd h (by simp [f_X12_adds_2])
  | succ n ih =>
    intro M x2 o_x2 h
    unfold f_X12_adds_2 at h
    refine V_iload_n (j := 2) C d_X12_adds_2 rfl rfl ?_
    refine V_aload_n (j := 0) C d_X12_adds_3 rfl rfl ?_
    refine V_iload_n (j := 1) C d_X12_adds_4 rfl rfl ?_
    refine V_callVri (K' := K_X12_wide) (a := x0) (ci := 12) (av := [iv_i x1]) (rest := [iv_i x2]) yi_X12_wide (by decide) rfl C (yk_X12_wide) l1_X12_136 (by decide) d_X12_adds_5 (fun v hv => ct_X12_wide x0 x1 o_x1 hv) rfl rfl (Nat.le_of_ble_eq_true rfl) h (fun v1 o1 h => ?_)
    refine V_icmp_ge (tgt := 42) C d_X12_adds_8 (by decide) o_x2 o1 h (fun h => ?_) (fun h => ?_)
    · skip
      refine V_aload_n (j := 0) C d_X12_adds_11 rfl rfl ?_
      refine V_getR C ck_12 fw_X12_46 d_X12_adds_12 h (fun v2 h => ?_)
      refine V_aload_n (j := 0) C d_X12_adds_15 rfl rfl ?_
      refine V_getI C ck_12 fw_X12_194 d_X12_adds_16 h (fun v3 o3 h => ?_)
      refine V_aload_n (j := 0) C d_X12_adds_19 rfl rfl ?_
      refine V_iload_n (j := 1) C d_X12_adds_20 rfl rfl ?_
      refine V_iload_n (j := 2) C d_X12_adds_21 rfl rfl ?_
      refine V_callVri (K' := K_X12_soundOf) (a := x0) (ci := 12) (av := [iv_i x1, iv_i x2]) (rest := [iv_i v3, .ref (G.1 + v2)]) yi_X12_soundOf (by decide) rfl C (yk_X12_soundOf) l1_X12_140 (by decide) d_X12_adds_22 (fun v hv => ct_X12_soundOf x0 x1 x2 o_x1 o_x2 hv) rfl rfl (Nat.le_of_ble_eq_true rfl) h (fun v4 o4 h => ?_)
      refine V_iast C d_X12_adds_25 o3 o4 h (fun M5 h => ?_)
      refine V_aload_n (j := 0) C d_X12_adds_26 rfl rfl ?_
      refine V_dup C d_X12_adds_27 rfl ?_
      refine V_getI C ck_12 fw_X12_194 d_X12_adds_28 h (fun v6 o6 h => ?_)
      refine V_iconst C d_X12_adds_31 ?_
      refine V_iadd C d_X12_adds_32 ?_
      refine V_putI C ck_12 fw_X12_194 fp_12_20 d_X12_adds_33 (ok_wr _) h (fun M7 h => ?_)
      refine V_iinc (j := 2) (lv' := [(2, iv_i (wr_i (x2 + 1))), (0, .ref (G.1 + x0)), (1, iv_i x1)]) C d_X12_adds_36 rfl (by decide) rfl ?_
      refine V_goto (tgt := 2) C d_X12_adds_39 (by decide) ?_
      refine V_lv [1, 2, 0] rfl (ih M7 (wr_i (x2 + 1)) (ok_wr _) h)
    · skip
      exact V_vret C hR d_X12_adds_42 (Option.some.inj h)
set_option maxHeartbeats 4000000 in
set_option maxRecDepth 100000 in
theorem t_X12_adds {X : XT_x} {G : GT_g} {M : Mem_m} {z : Mem_m} (C : Cx_ (K_X12_adds) X G) (hR : Rx_ X G none) (x0 : Nat) (x1 : Int) (o_x1 : ok_i x1) (h : f_X12_adds G.2.2.2 M x0 x1 = some z) : V_ (K_X12_adds) X G (Fq_ X G (Qv_ G z)) M 0 [(0, .ref (G.1 + x0)), (1, iv_i x1)] [] := by
  unfold f_X12_adds at h
  refine V_iconst C d_X12_adds_0 ?_
  refine V_istore_n (lv' := [(2, iv_i 0), (0, .ref (G.1 + x0)), (1, iv_i x1)]) C d_X12_adds_1 rfl (by decide) rfl ?_
  refine V_lv [1, 2, 0] rfl (t_X12_adds_2 C hR x0 x1 o_x1 FU_ M 0 (okc rfl) h)
set_option maxHeartbeats 4000000 in
set_option maxRecDepth 100000 in
theorem ct_X12_adds {l : Launch} {G : GT_g} {M : Mem_m} (x0 : Nat) (x1 : Int) (o_x1 : ok_i x1) {z : Mem_m} (h : f_X12_adds G.2.2.2 M x0 x1 = some z) : MV_ l yX12_adds K_X12_adds none G M [.ref (G.1 + x0), iv_i x1] z :=
  met_of (by decide +kernel) rfl (Nat.le_of_ble_eq_true rfl) (fun X hl C hR => by subst hl; exact t_X12_adds C hR x0 x1 o_x1 h)
theorem d_X12_isHeard_0 : decode cX12_isHeard 0 = .ok (.aload_n 0, 1) := by decide +kernel
theorem d_X12_isHeard_1 : decode cX12_isHeard 1 = .ok (.iconst 0, 1) := by decide +kernel
theorem d_X12_isHeard_2 : decode cX12_isHeard 2 = .ok (.putfield 194, 3) := by decide +kernel
theorem d_X12_isHeard_5 : decode cX12_isHeard 5 = .ok (.iconst 1, 1) := by decide +kernel
theorem d_X12_isHeard_6 : decode cX12_isHeard 6 = .ok (.istore 4, 2) := by decide +kernel
theorem d_X12_isHeard_8 : decode cX12_isHeard 8 = .ok (.iconst 1, 1) := by decide +kernel
theorem d_X12_isHeard_9 : decode cX12_isHeard 9 = .ok (.istore 5, 2) := by decide +kernel
theorem d_X12_isHeard_11 : decode cX12_isHeard 11 = .ok (.iload 5, 2) := by decide +kernel
theorem d_X12_isHeard_13 : decode cX12_isHeard 13 = .ok (.iload_n 2, 1) := by decide +kernel
theorem d_X12_isHeard_14 : decode cX12_isHeard 14 = .ok (.if_icmp .ge 16, 3) := by decide +kernel
theorem d_X12_isHeard_17 : decode cX12_isHeard 17 = .ok (.iload 4, 2) := by decide +kernel
theorem d_X12_isHeard_19 : decode cX12_isHeard 19 = .ok (.bipush 16, 2) := by decide +kernel
theorem d_X12_isHeard_21 : decode cX12_isHeard 21 = .ok (.imul, 1) := by decide +kernel
theorem d_X12_isHeard_22 : decode cX12_isHeard 22 = .ok (.istore 4, 2) := by decide +kernel
theorem d_X12_isHeard_24 : decode cX12_isHeard 24 = .ok (.iinc 5 1, 3) := by decide +kernel
theorem d_X12_isHeard_27 : decode cX12_isHeard 27 = .ok (.goto (-16), 3) := by decide +kernel
theorem d_X12_isHeard_30 : decode cX12_isHeard 30 = .ok (.iconst 0, 1) := by decide +kernel
theorem d_X12_isHeard_31 : decode cX12_isHeard 31 = .ok (.istore 5, 2) := by decide +kernel
theorem d_X12_isHeard_33 : decode cX12_isHeard 33 = .ok (.iload 5, 2) := by decide +kernel
theorem d_X12_isHeard_35 : decode cX12_isHeard 35 = .ok (.iload_n 2, 1) := by decide +kernel
theorem d_X12_isHeard_36 : decode cX12_isHeard 36 = .ok (.if_icmp .ge 53, 3) := by decide +kernel
theorem d_X12_isHeard_39 : decode cX12_isHeard 39 = .ok (.iload_n 3, 1) := by decide +kernel
theorem d_X12_isHeard_40 : decode cX12_isHeard 40 = .ok (.iload 4, 2) := by decide +kernel
theorem d_X12_isHeard_42 : decode cX12_isHeard 42 = .ok (.idiv, 1) := by decide +kernel
theorem d_X12_isHeard_43 : decode cX12_isHeard 43 = .ok (.bipush 16, 2) := by decide +kernel
theorem d_X12_isHeard_45 : decode cX12_isHeard 45 = .ok (.irem, 1) := by decide +kernel
theorem d_X12_isHeard_46 : decode cX12_isHeard 46 = .ok (.istore 6, 2) := by decide +kernel
theorem d_X12_isHeard_48 : decode cX12_isHeard 48 = .ok (.iload 4, 2) := by decide +kernel
theorem d_X12_isHeard_50 : decode cX12_isHeard 50 = .ok (.bipush 16, 2) := by decide +kernel
theorem d_X12_isHeard_52 : decode cX12_isHeard 52 = .ok (.idiv, 1) := by decide +kernel
theorem d_X12_isHeard_53 : decode cX12_isHeard 53 = .ok (.istore 4, 2) := by decide +kernel
theorem d_X12_isHeard_55 : decode cX12_isHeard 55 = .ok (.aload_n 0, 1) := by decide +kernel
theorem d_X12_isHeard_56 : decode cX12_isHeard 56 = .ok (.iload 6, 2) := by decide +kernel
theorem d_X12_isHeard_58 : decode cX12_isHeard 58 = .ok (.invokevirtual 130, 3) := by decide +kernel
theorem d_X12_isHeard_61 : decode cX12_isHeard 61 = .ok (.ifCond .eq 14, 3) := by decide +kernel
theorem d_X12_isHeard_64 : decode cX12_isHeard 64 = .ok (.aload_n 0, 1) := by decide +kernel
theorem d_X12_isHeard_65 : decode cX12_isHeard 65 = .ok (.iload 6, 2) := by decide +kernel
theorem d_X12_isHeard_67 : decode cX12_isHeard 67 = .ok (.bipush 6, 2) := by decide +kernel
theorem d_X12_isHeard_69 : decode cX12_isHeard 69 = .ok (.invokevirtual 133, 3) := by decide +kernel
theorem d_X12_isHeard_72 : decode cX12_isHeard 72 = .ok (.ifCond .ne 5, 3) := by decide +kernel
theorem d_X12_isHeard_75 : decode cX12_isHeard 75 = .ok (.iconst 0, 1) := by decide +kernel
theorem d_X12_isHeard_76 : decode cX12_isHeard 76 = .ok (.ireturn, 1) := by decide +kernel
theorem d_X12_isHeard_77 : decode cX12_isHeard 77 = .ok (.aload_n 0, 1) := by decide +kernel
theorem d_X12_isHeard_78 : decode cX12_isHeard 78 = .ok (.iload 6, 2) := by decide +kernel
theorem d_X12_isHeard_80 : decode cX12_isHeard 80 = .ok (.invokevirtual 203, 3) := by decide +kernel
theorem d_X12_isHeard_83 : decode cX12_isHeard 83 = .ok (.iinc 5 1, 3) := by decide +kernel
theorem d_X12_isHeard_86 : decode cX12_isHeard 86 = .ok (.goto (-53), 3) := by decide +kernel
theorem d_X12_isHeard_89 : decode cX12_isHeard 89 = .ok (.aload_n 0, 1) := by decide +kernel
theorem d_X12_isHeard_90 : decode cX12_isHeard 90 = .ok (.invokevirtual 200, 3) := by decide +kernel
theorem d_X12_isHeard_93 : decode cX12_isHeard 93 = .ok (.aload_n 0, 1) := by decide +kernel
theorem d_X12_isHeard_94 : decode cX12_isHeard 94 = .ok (.getfield 194, 3) := by decide +kernel
theorem d_X12_isHeard_97 : decode cX12_isHeard 97 = .ok (.aload_n 0, 1) := by decide +kernel
theorem d_X12_isHeard_98 : decode cX12_isHeard 98 = .ok (.iload_n 1, 1) := by decide +kernel
theorem d_X12_isHeard_99 : decode cX12_isHeard 99 = .ok (.iconst 0, 1) := by decide +kernel
theorem d_X12_isHeard_100 : decode cX12_isHeard 100 = .ok (.invokevirtual 98, 3) := by decide +kernel
theorem d_X12_isHeard_103 : decode cX12_isHeard 103 = .ok (.if_icmp .eq 5, 3) := by decide +kernel
theorem d_X12_isHeard_106 : decode cX12_isHeard 106 = .ok (.iconst 0, 1) := by decide +kernel
theorem d_X12_isHeard_107 : decode cX12_isHeard 107 = .ok (.ireturn, 1) := by decide +kernel
theorem d_X12_isHeard_108 : decode cX12_isHeard 108 = .ok (.iconst 0, 1) := by decide +kernel
theorem d_X12_isHeard_109 : decode cX12_isHeard 109 = .ok (.istore 5, 2) := by decide +kernel
theorem d_X12_isHeard_111 : decode cX12_isHeard 111 = .ok (.iload 5, 2) := by decide +kernel
theorem d_X12_isHeard_113 : decode cX12_isHeard 113 = .ok (.aload_n 0, 1) := by decide +kernel
theorem d_X12_isHeard_114 : decode cX12_isHeard 114 = .ok (.getfield 194, 3) := by decide +kernel
theorem d_X12_isHeard_117 : decode cX12_isHeard 117 = .ok (.if_icmp .ge 30, 3) := by decide +kernel
theorem d_X12_isHeard_120 : decode cX12_isHeard 120 = .ok (.aload_n 0, 1) := by decide +kernel
theorem d_X12_isHeard_121 : decode cX12_isHeard 121 = .ok (.getfield 46, 3) := by decide +kernel
theorem d_X12_isHeard_124 : decode cX12_isHeard 124 = .ok (.iload 5, 2) := by decide +kernel
theorem d_X12_isHeard_126 : decode cX12_isHeard 126 = .ok (.iaload, 1) := by decide +kernel
theorem d_X12_isHeard_127 : decode cX12_isHeard 127 = .ok (.aload_n 0, 1) := by decide +kernel
theorem d_X12_isHeard_128 : decode cX12_isHeard 128 = .ok (.iload_n 1, 1) := by decide +kernel
theorem d_X12_isHeard_129 : decode cX12_isHeard 129 = .ok (.iconst 1, 1) := by decide +kernel
theorem d_X12_isHeard_130 : decode cX12_isHeard 130 = .ok (.iload 5, 2) := by decide +kernel
theorem d_X12_isHeard_132 : decode cX12_isHeard 132 = .ok (.iadd, 1) := by decide +kernel
theorem d_X12_isHeard_133 : decode cX12_isHeard 133 = .ok (.invokevirtual 98, 3) := by decide +kernel
theorem d_X12_isHeard_136 : decode cX12_isHeard 136 = .ok (.if_icmp .eq 5, 3) := by decide +kernel
theorem d_X12_isHeard_139 : decode cX12_isHeard 139 = .ok (.iconst 0, 1) := by decide +kernel
theorem d_X12_isHeard_140 : decode cX12_isHeard 140 = .ok (.ireturn, 1) := by decide +kernel
theorem d_X12_isHeard_141 : decode cX12_isHeard 141 = .ok (.iinc 5 1, 3) := by decide +kernel
theorem d_X12_isHeard_144 : decode cX12_isHeard 144 = .ok (.goto (-33), 3) := by decide +kernel
theorem d_X12_isHeard_147 : decode cX12_isHeard 147 = .ok (.iconst 1, 1) := by decide +kernel
theorem d_X12_isHeard_148 : decode cX12_isHeard 148 = .ok (.ireturn, 1) := by decide +kernel
set_option maxHeartbeats 4000000 in
set_option maxRecDepth 100000 in
theorem t_X12_isHeard_111 {X : XT_x} {G : GT_g} {z : (Mem_m × Int)} (C : Cx_ (K_X12_isHeard) X G) (hR : Rx_ X G (some .boolean)) (M : Mem_m) (x0 : Nat) (x1 : Int) (o_x1 : ok_i x1) : ∀ (n : Nat) (x5 : Int) (o_x5 : ok_i x5), f_X12_isHeard_111 G.2.2.2 M x0 x1 n x5 = some z → V_ (K_X12_isHeard) X G (Fq_ X G (Qi_ G z.1 z.2)) M 111 [(0, .ref (G.1 + x0)), (1, iv_i x1), (5, iv_i x5)] [] := by
  intro n
  induction n with
  | zero => intro x5 o_x5 h; exact absurd h (by simp [f_X12_isHeard_111])
  | succ n ih =>
    intro x5 o_x5 h
    unfold f_X12_isHeard_111 at h
    refine V_iload (j := 2) C d_X12_isHeard_111 rfl ?_
    refine V_aload_n (j := 0) C d_X12_isHeard_113 rfl rfl ?_
    refine V_getI C ck_12 fw_X12_194 d_X12_isHeard_114 h (fun v1 o1 h => ?_)
    refine V_icmp_ge (tgt := 147) C d_X12_isHeard_117 (by decide) o_x5 o1 h (fun h => ?_) (fun h => ?_)
    · skip
      refine V_aload_n (j := 0) C d_X12_isHeard_120 rfl rfl ?_
      refine V_getR C ck_12 fw_X12_46 d_X12_isHeard_121 h (fun v2 h => ?_)
      refine V_iload (j := 2) C d_X12_isHeard_124 rfl ?_
      refine V_iald C d_X12_isHeard_126 o_x5 h (fun v3 o3 h => ?_)
      refine V_aload_n (j := 0) C d_X12_isHeard_127 rfl rfl ?_
      refine V_iload_n (j := 1) C d_X12_isHeard_128 rfl rfl ?_
      refine V_iconst C d_X12_isHeard_129 ?_
      refine V_iload (j := 2) C d_X12_isHeard_130 rfl ?_
      refine V_iadd C d_X12_isHeard_132 ?_
      refine V_callVri (K' := K_X12_of) (a := x0) (ci := 12) (av := [iv_i x1, iv_i (wr_i (1 + x5))]) (rest := [iv_i v3]) yi_X12_of (by decide) rfl C (yk_X12_of) l1_X12_98 (by decide) d_X12_isHeard_133 (fun v hv => ct_X12_of x0 x1 (wr_i (1 + x5)) o_x1 (ok_wr _) hv) rfl rfl (Nat.le_of_ble_eq_true rfl) h (fun v4 o4 h => ?_)
      refine V_icmp_eq (tgt := 141) C d_X12_isHeard_136 (by decide) o3 o4 h (fun h => ?_) (fun h => ?_)
      · skip
        refine V_iinc (j := 2) (lv' := [(5, iv_i (wr_i (x5 + 1))), (0, .ref (G.1 + x0)), (1, iv_i x1)]) C d_X12_isHeard_141 rfl (by decide) rfl ?_
        refine V_goto (tgt := 111) C d_X12_isHeard_144 (by decide) ?_
        refine V_lv [1, 2, 0] rfl (ih (wr_i (x5 + 1)) (ok_wr _) h)
      · skip
        refine V_iconst C d_X12_isHeard_139 ?_
        exact V_zret_w C hR d_X12_isHeard_140 (Or.inl rfl) h
    · skip
      refine V_iconst C d_X12_isHeard_147 ?_
      exact V_zret_w C hR d_X12_isHeard_148 (Or.inr rfl) h
set_option maxHeartbeats 4000000 in
set_option maxRecDepth 100000 in
theorem t_X12_isHeard_33 {X : XT_x} {G : GT_g} {z : (Mem_m × Int)} (C : Cx_ (K_X12_isHeard) X G) (hR : Rx_ X G (some .boolean)) (x0 : Nat) (x1 : Int) (x2 : Int) (x3 : Int) (o_x1 : ok_i x1) (o_x2 : ok_i x2) (o_x3 : ok_i x3) : ∀ (n : Nat) (M : Mem_m) (x4 : Int) (x5 : Int) (o_x4 : ok_i x4) (o_x5 : ok_i x5), f_X12_isHeard_33 G.2.2.2 x0 x1 x2 x3 n M x4 x5 = some z → V_ (K_X12_isHeard) X G (Fq_ X G (Qi_ G z.1 z.2)) M 33 [(0, .ref (G.1 + x0)), (1, iv_i x1), (2, iv_i x2), (3, iv_i x3), (4, iv_i x4), (5, iv_i x5)] [] := by
  intro n
  induction n with
  | zero => intro M x4 x5 o_x4 o_x5 h; exact absurd h (by simp [f_X12_isHeard_33])
  | succ n ih =>
    intro M x4 x5 o_x4 o_x5 h
    unfold f_X12_isHeard_33 at h
    refine V_iload (j := 5) C d_X12_isHeard_33 rfl ?_
    refine V_iload_n (j := 2) C d_X12_isHeard_35 rfl rfl ?_
    refine V_icmp_ge (tgt := 89) C d_X12_isHeard_36 (by decide) o_x5 o_x2 h (fun h => ?_) (fun h => ?_)
    · skip
      refine V_iload_n (j := 3) C d_X12_isHeard_39 rfl rfl ?_
      refine V_iload (j := 4) C d_X12_isHeard_40 rfl ?_
      refine V_idiv C d_X12_isHeard_42 o_x4 h (fun h => ?_)
      refine V_bipush (v := 16) C d_X12_isHeard_43 rfl ?_
      refine V_irem C d_X12_isHeard_45 (okc rfl) h (fun h => ?_)
      refine V_istore (lv' := [(6, iv_i (rm_i (dv_i x3 x4) 16)), (0, .ref (G.1 + x0)), (1, iv_i x1), (2, iv_i x2), (3, iv_i x3), (4, iv_i x4), (5, iv_i x5)]) C d_X12_isHeard_46 (by decide) rfl ?_
      refine V_iload (j := 5) C d_X12_isHeard_48 rfl ?_
      refine V_bipush (v := 16) C d_X12_isHeard_50 rfl ?_
      refine V_idiv C d_X12_isHeard_52 (okc rfl) h (fun h => ?_)
      refine V_istore (lv' := [(4, iv_i (dv_i x4 16)), (6, iv_i (rm_i (dv_i x3 x4) 16)), (0, .ref (G.1 + x0)), (1, iv_i x1), (2, iv_i x2), (3, iv_i x3), (5, iv_i x5)]) C d_X12_isHeard_53 (by decide) rfl ?_
      refine V_aload_n (j := 2) C d_X12_isHeard_55 rfl rfl ?_
      refine V_iload (j := 1) C d_X12_isHeard_56 rfl ?_
      refine V_callVri (K' := K_X12_isNote) (a := x0) (ci := 12) (av := [iv_i (rm_i (dv_i x3 x4) 16)]) (rest := []) yi_X12_isNote (by decide) rfl C (yk_X12_isNote) l1_X12_130 (by decide) d_X12_isHeard_58 (fun v hv => ct_X12_isNote x0 (rm_i (dv_i x3 x4) 16) (ok_I _) hv) rfl rfl (Nat.le_of_ble_eq_true rfl) h (fun v1 o1 h => ?_)
      refine V_if_eq (tgt := 75) C d_X12_isHeard_61 (by decide) o1 h (fun h => ?_) (fun h => ?_)
      · skip
        refine V_iconst C d_X12_isHeard_75 ?_
        exact V_zret_w C hR d_X12_isHeard_76 (Or.inl rfl) h
      · skip
        refine V_aload_n (j := 2) C d_X12_isHeard_64 rfl rfl ?_
        refine V_iload (j := 1) C d_X12_isHeard_65 rfl ?_
        refine V_bipush (v := 6) C d_X12_isHeard_67 rfl ?_
        refine V_callVri (K' := K_X12_noteOf) (a := x0) (ci := 12) (av := [iv_i (rm_i (dv_i x3 x4) 16), iv_i 6]) (rest := []) yi_X12_noteOf (by decide) rfl C (yk_X12_noteOf) l1_X12_133 (by decide) d_X12_isHeard_69 (fun v hv => ct_X12_noteOf x0 (rm_i (dv_i x3 x4) 16) 6 (ok_I _) (okc rfl) hv) rfl rfl (Nat.le_of_ble_eq_true rfl) h (fun v2 o2 h => ?_)
        refine V_if_ne (tgt := 77) C d_X12_isHeard_72 (by decide) o2 h (fun h => ?_) (fun h => ?_)
        · skip
          refine V_iconst C d_X12_isHeard_75 ?_
          exact V_zret_w C hR d_X12_isHeard_76 (Or.inl rfl) h
        · skip
          refine V_aload_n (j := 2) C d_X12_isHeard_77 rfl rfl ?_
          refine V_iload (j := 1) C d_X12_isHeard_78 rfl ?_
          refine V_callVwv (K' := K_X12_adds) (a := x0) (ci := 12) (av := [iv_i (rm_i (dv_i x3 x4) 16)]) (rest := []) yi_X12_adds (by decide) rfl C (yk_X12_adds) l1_X12_203 (by decide) d_X12_isHeard_80 (fun v hv => ct_X12_adds x0 (rm_i (dv_i x3 x4) 16) (ok_I _) hv) rfl rfl (Nat.le_of_ble_eq_true rfl) h (fun M3 h => ?_)
          refine V_iinc (j := 6) (lv' := [(5, iv_i (wr_i (x5 + 1))), (4, iv_i (dv_i x4 16)), (6, iv_i (rm_i (dv_i x3 x4) 16)), (0, .ref (G.1 + x0)), (1, iv_i x1), (2, iv_i x2), (3, iv_i x3)]) C d_X12_isHeard_83 rfl (by decide) rfl ?_
          refine V_goto (tgt := 33) C d_X12_isHeard_86 (by decide) ?_
          refine V_lv [3, 4, 5, 6, 1, 0] rfl (ih M3 (dv_i x4 16) (wr_i (x5 + 1)) (ok_I _) (ok_wr _) h)
    · skip
      refine V_aload_n (j := 0) C d_X12_isHeard_89 rfl rfl ?_
      refine V_callVwv (K' := K_X12_hears) (a := x0) (ci := 12) (av := []) (rest := []) yi_X12_hears (by decide) rfl C (yk_X12_hears) l1_X12_200 (by decide) d_X12_isHeard_90 (fun v hv => ct_X12_hears x0 hv) rfl rfl (Nat.le_of_ble_eq_true rfl) h (fun M4 h => ?_)
      refine V_aload_n (j := 0) C d_X12_isHeard_93 rfl rfl ?_
      refine V_getI C ck_12 fw_X12_194 d_X12_isHeard_94 h (fun v5 o5 h => ?_)
      refine V_aload_n (j := 0) C d_X12_isHeard_97 rfl rfl ?_
      refine V_iload_n (j := 1) C d_X12_isHeard_98 rfl rfl ?_
      refine V_iconst C d_X12_isHeard_99 ?_
      refine V_callVri (K' := K_X12_of) (a := x0) (ci := 12) (av := [iv_i x1, iv_i 0]) (rest := [iv_i v5]) yi_X12_of (by decide) rfl C (yk_X12_of) l1_X12_98 (by decide) d_X12_isHeard_100 (fun v hv => ct_X12_of x0 x1 0 o_x1 (okc rfl) hv) rfl rfl (Nat.le_of_ble_eq_true rfl) h (fun v6 o6 h => ?_)
      refine V_icmp_eq (tgt := 108) C d_X12_isHeard_103 (by decide) o5 o6 h (fun h => ?_) (fun h => ?_)
      · skip
        refine V_iconst C d_X12_isHeard_108 ?_
        refine V_istore (lv' := [(5, iv_i 0), (0, .ref (G.1 + x0)), (1, iv_i x1), (2, iv_i x2), (3, iv_i x3), (4, iv_i x4)]) C d_X12_isHeard_109 (by decide) rfl ?_
        refine V_lv [1, 2, 0] rfl (t_X12_isHeard_111 C hR M4 x0 x1 o_x1 FU_ 0 (okc rfl) h)
      · skip
        refine V_iconst C d_X12_isHeard_106 ?_
        exact V_zret_w C hR d_X12_isHeard_107 (Or.inl rfl) h
set_option maxHeartbeats 4000000 in
set_option maxRecDepth 100000 in
theorem t_X12_isHeard_11 {X : XT_x} {G : GT_g} {z : (Mem_m × Int)} (C : Cx_ (K_X12_isHeard) X G) (hR : Rx_ X G (some .boolean)) (M : Mem_m) (x0 : Nat) (x1 : Int) (x2 : Int) (x3 : Int) (o_x1 : ok_i x1) (o_x2 : ok_i x2) (o_x3 : ok_i x3) : ∀ (n : Nat) (x4 : Int) (x5 : Int) (o_x4 : ok_i x4) (o_x5 : ok_i x5), f_X12_isHeard_11 G.2.2.2 M x0 x1 x2 x3 n x4 x5 = some z → V_ (K_X12_isHeard) X G (Fq_ X G (Qi_ G z.1 z.2)) M 11 [(0, .ref (G.1 + x0)), (1, iv_i x1), (2, iv_i x2), (3, iv_i x3), (4, iv_i x4), (5, iv_i x5)] [] := by
  intro n
  induction n with
  | zero => intro x4 x5 o_x4 o_x5 h; exact absurd h (by simp [f_X12_isHeard_11])
  | succ n ih =>
    intro x4 x5 o_x4 o_x5 h
    unfold f_X12_isHeard_11 at h
    refine V_iload (j := 5) C d_X12_isHeard_11 rfl ?_
    refine V_iload_n (j := 2) C d_X12_isHeard_13 rfl rfl ?_
    refine V_icmp_ge (tgt := 30) C d_X12_isHeard_14 (by decide) o_x5 o_x2 h (fun h => ?_) (fun h => ?_)
    · skip
      refine V_iload (j := 4) C d_X12_isHeard_17 rfl ?_
      refine V_bipush (v := 16) C d_X12_isHeard_19 rfl ?_
      refine V_imul C d_X12_isHeard_21 ?_
      refine V_istore (lv' := [(4, iv_i (wr_i (x4 * 16))), (0, .ref (G.1 + x0)), (1, iv_i x1), (2, iv_i x2), (3, iv_i x3), (5, iv_i x5)]) C d_X12_isHeard_22 (by decide) rfl ?_
      refine V_iinc (j := 5) (lv' := [(5, iv_i (wr_i (x5 + 1))), (4, iv_i (wr_i (x4 * 16))), (0, .ref (G.1 + x0)), (1, iv_i x1), (2, iv_i x2), (3, iv_i x3)]) C d_X12_isHeard_24 rfl (by decide) rfl ?_
      refine V_goto (tgt := 11) C d_X12_isHeard_27 (by decide) ?_
      refine V_lv [2, 3, 4, 5, 1, 0] rfl (ih (wr_i (x4 * 16)) (wr_i (x5 + 1)) (ok_wr _) (ok_wr _) h)
    · skip
      refine V_iconst C d_X12_isHeard_30 ?_
      refine V_istore (lv' := [(5, iv_i 0), (0, .ref (G.1 + x0)), (1, iv_i x1), (2, iv_i x2), (3, iv_i x3), (4, iv_i x4)]) C d_X12_isHeard_31 (by decide) rfl ?_
      refine V_lv [1, 2, 3, 4, 5, 0] rfl (t_X12_isHeard_33 C hR x0 x1 x2 x3 o_x1 o_x2 o_x3 FU_ M x4 0 o_x4 (okc rfl) h)
set_option maxHeartbeats 4000000 in
set_option maxRecDepth 100000 in
theorem t_X12_isHeard {X : XT_x} {G : GT_g} {M : Mem_m} {z : (Mem_m × Int)} (C : Cx_ (K_X12_isHeard) X G) (hR : Rx_ X G (some .boolean)) (x0 : Nat) (x1 : Int) (x2 : Int) (x3 : Int) (o_x1 : ok_i x1) (o_x2 : ok_i x2) (o_x3 : ok_i x3) (h : f_X12_isHeard G.2.2.2 M x0 x1 x2 x3 = some z) : V_ (K_X12_isHeard) X G (Fq_ X G (Qi_ G z.1 z.2)) M 0 [(0, .ref (G.1 + x0)), (1, iv_i x1), (2, iv_i x2), (3, iv_i x3)] [] := by
  unfold f_X12_isHeard at h
  refine V_aload_n (j := 0) C d_X12_isHeard_0 rfl rfl ?_
  refine V_iconst C d_X12_isHeard_1 ?_
  refine V_putI C ck_12 fw_X12_194 fp_12_20 d_X12_isHeard_2 (okc rfl) h (fun M1 h => ?_)
  refine V_iconst C d_X12_isHeard_5 ?_
  refine V_istore (lv' := [(4, iv_i 1), (0, .ref (G.1 + x0)), (1, iv_i x1), (2, iv_i x2), (3, iv_i x3)]) C d_X12_isHeard_6 (by decide) rfl ?_
  refine V_iconst C d_X12_isHeard_8 ?_
  refine V_istore (lv' := [(5, iv_i 1), (4, iv_i 1), (0, .ref (G.1 + x0)), (1, iv_i x1), (2, iv_i x2), (3, iv_i x3)]) C d_X12_isHeard_9 (by decide) rfl ?_
  refine V_lv [2, 3, 4, 5, 1, 0] rfl (t_X12_isHeard_11 C hR M1 x0 x1 x2 x3 o_x1 o_x2 o_x3 FU_ 1 1 (okc rfl) (okc rfl) h)
set_option maxHeartbeats 4000000 in
set_option maxRecDepth 100000 in
theorem ct_X12_isHeard {l : Launch} {G : GT_g} {M : Mem_m} (x0 : Nat) (x1 : Int) (x2 : Int) (x3 : Int) (o_x1 : ok_i x1) (o_x2 : ok_i x2) (o_x3 : ok_i x3) {z : (Mem_m × Int)} (h : f_X12_isHeard G.2.2.2 M x0 x1 x2 x3 = some z) : MI_ l yX12_isHeard K_X12_isHeard (some .boolean) G M [.ref (G.1 + x0), iv_i x1, iv_i x2, iv_i x3] z.1 z.2 :=
  met_of (by decide +kernel) rfl (Nat.le_of_ble_eq_true rfl) (fun X hl C hR => by subst hl; exact t_X12_isHeard C hR x0 x1 x2 x3 o_x1 o_x2 o_x3 h)
