theorem d_X12_who_0 : decode cX12_who 0 = .ok (.iload_n 1, 1) := by decide +kernel
theorem d_X12_who_1 : decode cX12_who 1 = .ok (.i2l, 1) := by decide +kernel
theorem d_X12_who_2 : decode cX12_who 2 = .ok (.lconst 0, 1) := by decide +kernel
theorem d_X12_who_3 : decode cX12_who 3 = .ok (.ldc2_w 101, 3) := by decide +kernel
theorem d_X12_who_6 : decode cX12_who 6 = .ok (.invokestatic 69, 3) := by decide +kernel
theorem d_X12_who_9 : decode cX12_who 9 = .ok (.ifCond .eq 15, 3) := by decide +kernel
theorem d_X12_who_12 : decode cX12_who 12 = .ok (.iload_n 2, 1) := by decide +kernel
theorem d_X12_who_13 : decode cX12_who 13 = .ok (.i2l, 1) := by decide +kernel
theorem d_X12_who_14 : decode cX12_who 14 = .ok (.lconst 0, 1) := by decide +kernel
theorem d_X12_who_15 : decode cX12_who 15 = .ok (.ldc2_w 87, 3) := by decide +kernel
theorem d_X12_who_18 : decode cX12_who 18 = .ok (.invokestatic 69, 3) := by decide +kernel
theorem d_X12_who_21 : decode cX12_who 21 = .ok (.ifCond .ne 5, 3) := by decide +kernel
theorem d_X12_who_24 : decode cX12_who 24 = .ok (.iconst (-1), 1) := by decide +kernel
theorem d_X12_who_25 : decode cX12_who 25 = .ok (.ireturn, 1) := by decide +kernel
theorem d_X12_who_26 : decode cX12_who 26 = .ok (.bipush (-4), 2) := by decide +kernel
theorem d_X12_who_28 : decode cX12_who 28 = .ok (.istore_n 3, 1) := by decide +kernel
theorem d_X12_who_29 : decode cX12_who 29 = .ok (.bipush 21, 2) := by decide +kernel
theorem d_X12_who_31 : decode cX12_who 31 = .ok (.istore 4, 2) := by decide +kernel
theorem d_X12_who_33 : decode cX12_who 33 = .ok (.iconst 0, 1) := by decide +kernel
theorem d_X12_who_34 : decode cX12_who 34 = .ok (.istore 5, 2) := by decide +kernel
theorem d_X12_who_36 : decode cX12_who 36 = .ok (.iload 5, 2) := by decide +kernel
theorem d_X12_who_38 : decode cX12_who 38 = .ok (.bipush 8, 2) := by decide +kernel
theorem d_X12_who_40 : decode cX12_who 40 = .ok (.if_icmp .ge 165, 3) := by decide +kernel
theorem d_X12_who_43 : decode cX12_who 43 = .ok (.iconst 0, 1) := by decide +kernel
theorem d_X12_who_44 : decode cX12_who 44 = .ok (.istore 6, 2) := by decide +kernel
theorem d_X12_who_46 : decode cX12_who 46 = .ok (.iconst (-1), 1) := by decide +kernel
theorem d_X12_who_47 : decode cX12_who 47 = .ok (.istore 7, 2) := by decide +kernel
theorem d_X12_who_49 : decode cX12_who 49 = .ok (.iconst 0, 1) := by decide +kernel
theorem d_X12_who_50 : decode cX12_who 50 = .ok (.istore 8, 2) := by decide +kernel
theorem d_X12_who_52 : decode cX12_who 52 = .ok (.iload 8, 2) := by decide +kernel
theorem d_X12_who_54 : decode cX12_who 54 = .ok (.aload_n 0, 1) := by decide +kernel
theorem d_X12_who_55 : decode cX12_who 55 = .ok (.getfield 9, 3) := by decide +kernel
theorem d_X12_who_58 : decode cX12_who 58 = .ok (.sipush 1065, 3) := by decide +kernel
theorem d_X12_who_61 : decode cX12_who 61 = .ok (.iaload, 1) := by decide +kernel
theorem d_X12_who_62 : decode cX12_who 62 = .ok (.if_icmp .ge 82, 3) := by decide +kernel
theorem d_X12_who_65 : decode cX12_who 65 = .ok (.aload_n 0, 1) := by decide +kernel
theorem d_X12_who_66 : decode cX12_who 66 = .ok (.getfield 9, 3) := by decide +kernel
theorem d_X12_who_69 : decode cX12_who 69 = .ok (.sipush 776, 3) := by decide +kernel
theorem d_X12_who_72 : decode cX12_who 72 = .ok (.bipush 8, 2) := by decide +kernel
theorem d_X12_who_74 : decode cX12_who 74 = .ok (.iload 8, 2) := by decide +kernel
theorem d_X12_who_76 : decode cX12_who 76 = .ok (.imul, 1) := by decide +kernel
theorem d_X12_who_77 : decode cX12_who 77 = .ok (.iadd, 1) := by decide +kernel
theorem d_X12_who_78 : decode cX12_who 78 = .ok (.iconst 5, 1) := by decide +kernel
theorem d_X12_who_79 : decode cX12_who 79 = .ok (.iadd, 1) := by decide +kernel
theorem d_X12_who_80 : decode cX12_who 80 = .ok (.iaload, 1) := by decide +kernel
theorem d_X12_who_81 : decode cX12_who 81 = .ok (.iload 5, 2) := by decide +kernel
theorem d_X12_who_83 : decode cX12_who 83 = .ok (.if_icmp .eq 6, 3) := by decide +kernel
theorem d_X12_who_86 : decode cX12_who 86 = .ok (.goto 52, 3) := by decide +kernel
theorem d_X12_who_89 : decode cX12_who 89 = .ok (.iinc 6 1, 3) := by decide +kernel
theorem d_X12_who_92 : decode cX12_who 92 = .ok (.aload_n 0, 1) := by decide +kernel
theorem d_X12_who_93 : decode cX12_who 93 = .ok (.getfield 9, 3) := by decide +kernel
theorem d_X12_who_96 : decode cX12_who 96 = .ok (.sipush 776, 3) := by decide +kernel
theorem d_X12_who_99 : decode cX12_who 99 = .ok (.bipush 8, 2) := by decide +kernel
theorem d_X12_who_101 : decode cX12_who 101 = .ok (.iload 8, 2) := by decide +kernel
theorem d_X12_who_103 : decode cX12_who 103 = .ok (.imul, 1) := by decide +kernel
theorem d_X12_who_104 : decode cX12_who 104 = .ok (.iadd, 1) := by decide +kernel
theorem d_X12_who_105 : decode cX12_who 105 = .ok (.bipush 6, 2) := by decide +kernel
theorem d_X12_who_107 : decode cX12_who 107 = .ok (.iadd, 1) := by decide +kernel
theorem d_X12_who_108 : decode cX12_who 108 = .ok (.iaload, 1) := by decide +kernel
theorem d_X12_who_109 : decode cX12_who 109 = .ok (.iload 7, 2) := by decide +kernel
theorem d_X12_who_111 : decode cX12_who 111 = .ok (.if_icmp .le 23, 3) := by decide +kernel
theorem d_X12_who_114 : decode cX12_who 114 = .ok (.aload_n 0, 1) := by decide +kernel
theorem d_X12_who_115 : decode cX12_who 115 = .ok (.getfield 9, 3) := by decide +kernel
theorem d_X12_who_118 : decode cX12_who 118 = .ok (.sipush 776, 3) := by decide +kernel
theorem d_X12_who_121 : decode cX12_who 121 = .ok (.bipush 8, 2) := by decide +kernel
theorem d_X12_who_123 : decode cX12_who 123 = .ok (.iload 8, 2) := by decide +kernel
theorem d_X12_who_125 : decode cX12_who 125 = .ok (.imul, 1) := by decide +kernel
theorem d_X12_who_126 : decode cX12_who 126 = .ok (.iadd, 1) := by decide +kernel
theorem d_X12_who_127 : decode cX12_who 127 = .ok (.bipush 6, 2) := by decide +kernel
theorem d_X12_who_129 : decode cX12_who 129 = .ok (.iadd, 1) := by decide +kernel
theorem d_X12_who_130 : decode cX12_who 130 = .ok (.iaload, 1) := by decide +kernel
theorem d_X12_who_131 : decode cX12_who 131 = .ok (.goto 5, 3) := by decide +kernel
theorem d_X12_who_134 : decode cX12_who 134 = .ok (.iload 7, 2) := by decide +kernel
theorem d_X12_who_136 : decode cX12_who 136 = .ok (.istore 7, 2) := by decide +kernel
theorem d_X12_who_138 : decode cX12_who 138 = .ok (.iinc 8 1, 3) := by decide +kernel
theorem d_X12_who_141 : decode cX12_who 141 = .ok (.goto (-89), 3) := by decide +kernel
theorem d_X12_who_144 : decode cX12_who 144 = .ok (.aload_n 0, 1) := by decide +kernel
theorem d_X12_who_145 : decode cX12_who 145 = .ok (.getfield 9, 3) := by decide +kernel
theorem d_X12_who_148 : decode cX12_who 148 = .ok (.sipush 1046, 3) := by decide +kernel
theorem d_X12_who_151 : decode cX12_who 151 = .ok (.iload 5, 2) := by decide +kernel
theorem d_X12_who_153 : decode cX12_who 153 = .ok (.iadd, 1) := by decide +kernel
theorem d_X12_who_154 : decode cX12_who 154 = .ok (.iaload, 1) := by decide +kernel
theorem d_X12_who_155 : decode cX12_who 155 = .ok (.iload_n 1, 1) := by decide +kernel
theorem d_X12_who_156 : decode cX12_who 156 = .ok (.if_icmp .ne 43, 3) := by decide +kernel
theorem d_X12_who_159 : decode cX12_who 159 = .ok (.iload 6, 2) := by decide +kernel
theorem d_X12_who_161 : decode cX12_who 161 = .ok (.iload 4, 2) := by decide +kernel
theorem d_X12_who_163 : decode cX12_who 163 = .ok (.if_icmp .ge 36, 3) := by decide +kernel
theorem d_X12_who_166 : decode cX12_who 166 = .ok (.iload 6, 2) := by decide +kernel
theorem d_X12_who_168 : decode cX12_who 168 = .ok (.ifCond .le 24, 3) := by decide +kernel
theorem d_X12_who_171 : decode cX12_who 171 = .ok (.iload_n 2, 1) := by decide +kernel
theorem d_X12_who_172 : decode cX12_who 172 = .ok (.iload 7, 2) := by decide +kernel
theorem d_X12_who_174 : decode cX12_who 174 = .ok (.isub, 1) := by decide +kernel
theorem d_X12_who_175 : decode cX12_who 175 = .ok (.aload_n 0, 1) := by decide +kernel
theorem d_X12_who_176 : decode cX12_who 176 = .ok (.getfield 9, 3) := by decide +kernel
theorem d_X12_who_179 : decode cX12_who 179 = .ok (.sipush 1054, 3) := by decide +kernel
theorem d_X12_who_182 : decode cX12_who 182 = .ok (.iload 5, 2) := by decide +kernel
theorem d_X12_who_184 : decode cX12_who 184 = .ok (.iadd, 1) := by decide +kernel
theorem d_X12_who_185 : decode cX12_who 185 = .ok (.iaload, 1) := by decide +kernel
theorem d_X12_who_186 : decode cX12_who 186 = .ok (.if_icmp .ge 6, 3) := by decide +kernel
theorem d_X12_who_189 : decode cX12_who 189 = .ok (.goto 10, 3) := by decide +kernel
theorem d_X12_who_192 : decode cX12_who 192 = .ok (.iload 6, 2) := by decide +kernel
theorem d_X12_who_194 : decode cX12_who 194 = .ok (.istore 4, 2) := by decide +kernel
theorem d_X12_who_196 : decode cX12_who 196 = .ok (.iload 5, 2) := by decide +kernel
theorem d_X12_who_198 : decode cX12_who 198 = .ok (.istore_n 3, 1) := by decide +kernel
theorem d_X12_who_199 : decode cX12_who 199 = .ok (.iinc 5 1, 3) := by decide +kernel
theorem d_X12_who_202 : decode cX12_who 202 = .ok (.goto (-166), 3) := by decide +kernel
theorem d_X12_who_205 : decode cX12_who 205 = .ok (.iload_n 3, 1) := by decide +kernel
theorem d_X12_who_206 : decode cX12_who 206 = .ok (.ireturn, 1) := by decide +kernel
set_option maxHeartbeats 4000000 in
set_option maxRecDepth 100000 in
theorem t_X12_who_52 {X : XT_x} {G : GT_g} {z : Int} (C : Cx_ (K_X12_who) X G) (hR : Rx_ X G (some .int)) (M : Mem_m) (x0 : Nat) (x1 : Int) (x2 : Int) (x3 : Int) (x4 : Int) (x5 : Int) (o_x1 : ok_i x1) (o_x2 : ok_i x2) (o_x3 : ok_i x3) (o_x4 : ok_i x4) (o_x5 : ok_i x5) (k_36 : Int → Int → Int → Option Int) (hk_36 : ∀ (x3 : Int) (x4 : Int) (x5 : Int) (o_x3 : ok_i x3) (o_x4 : ok_i x4) (o_x5 : ok_i x5), k_36 x3 x4 x5 = some z → V_ (K_X12_who) X G (Fq_ X G (Qi_ G M z)) M 36 [(0, .ref (G.1 + x0)), (1, iv_i x1), (2, iv_i x2), (3, iv_i x3), (4, iv_i x4), (5, iv_i x5)] []) : ∀ (n : Nat) (x6 : Int) (x7 : Int) (x8 : Int) (o_x6 : ok_i x6) (o_x7 : ok_i x7) (o_x8 : ok_i x8), f_X12_who_52 G.2.2.2 k_36 M x0 x1 x2 x3 x4 x5 n x6 x7 x8 = some z → V_ (K_X12_who) X G (Fq_ X G (Qi_ G M z)) M 52 [(0, .ref (G.1 + x0)), (1, iv_i x1), (2, iv_i x2), (3, iv_i x3), (4, iv_i x4), (5, iv_i x5), (6, iv_i x6), (7, iv_i x7), (8, iv_i x8)] [] := by
  intro n
  induction n with
  | zero => intro x6 x7 x8 o_x6 o_x7 o_x8 h; exact absurd h (by simp [f_X12_who_52])
  | succ n ih =>
    intro x6 x7 x8 o_x6 o_x7 o_x8 h
    unfold f_X12_who_52 at h
    refine V_iload (j := 8) C d_X12_who_52 rfl ?_
    refine V_aload_n (j := 0) C d_X12_who_54 rfl rfl ?_
    refine V_getR C ck_12 fw_X12_9 d_X12_who_55 h (fun v1 h => ?_)
    refine V_sipush (v := 1065) C d_X12_who_58 rfl ?_
    refine V_iald C d_X12_who_61 (okc rfl) h (fun v2 o2 h => ?_)
    refine V_icmp_ge (tgt := 144) C d_X12_who_62 (by decide) o_x8 o2 h (fun h => ?_) (fun h => ?_)
    · skip
      refine V_aload_n (j := 0) C d_X12_who_65 rfl rfl ?_
      refine V_getR C ck_12 fw_X12_9 d_X12_who_66 h (fun v3 h => ?_)
      refine V_sipush (v := 776) C d_X12_who_69 rfl ?_
      refine V_bipush (v := 8) C d_X12_who_72 rfl ?_
      refine V_iload (j := 8) C d_X12_who_74 rfl ?_
      refine V_imul C d_X12_who_76 ?_
      refine V_iadd C d_X12_who_77 ?_
      refine V_iconst C d_X12_who_78 ?_
      refine V_iadd C d_X12_who_79 ?_
      refine V_iald C d_X12_who_80 (ok_wr _) h (fun v4 o4 h => ?_)
      refine V_iload (j := 5) C d_X12_who_81 rfl ?_
      refine V_icmp_eq (tgt := 89) C d_X12_who_83 (by decide) o4 o_x5 h (fun h => ?_) (fun h => ?_)
      · skip
        refine V_iinc (j := 6) (lv' := [(6, iv_i (wr_i (x6 + 1))), (0, .ref (G.1 + x0)), (1, iv_i x1), (2, iv_i x2), (3, iv_i x3), (4, iv_i x4), (5, iv_i x5), (7, iv_i x7), (8, iv_i x8)]) C d_X12_who_89 rfl (by decide) rfl ?_
        refine V_aload_n (j := 1) C d_X12_who_92 rfl rfl ?_
        refine V_getR C ck_12 fw_X12_9 d_X12_who_93 h (fun v5 h => ?_)
        refine V_sipush (v := 776) C d_X12_who_96 rfl ?_
        refine V_bipush (v := 8) C d_X12_who_99 rfl ?_
        refine V_iload (j := 8) C d_X12_who_101 rfl ?_
        refine V_imul C d_X12_who_103 ?_
        refine V_iadd C d_X12_who_104 ?_
        refine V_bipush (v := 6) C d_X12_who_105 rfl ?_
        refine V_iadd C d_X12_who_107 ?_
        refine V_iald C d_X12_who_108 (ok_wr _) h (fun v6 o6 h => ?_)
        refine V_iload (j := 7) C d_X12_who_109 rfl ?_
        refine V_icmp_le (tgt := 134) C d_X12_who_111 (by decide) o6 o_x7 h (fun h => ?_) (fun h => ?_)
        · skip
          refine V_iload (j := 7) C d_X12_who_134 rfl ?_
          refine V_istore (lv' := [(7, iv_i x7), (6, iv_i (wr_i (x6 + 1))), (0, .ref (G.1 + x0)), (1, iv_i x1), (2, iv_i x2), (3, iv_i x3), (4, iv_i x4), (5, iv_i x5), (8, iv_i x8)]) C d_X12_who_136 (by decide) rfl ?_
          refine V_iinc (j := 8) (lv' := [(8, iv_i (wr_i (x8 + 1))), (7, iv_i x7), (6, iv_i (wr_i (x6 + 1))), (0, .ref (G.1 + x0)), (1, iv_i x1), (2, iv_i x2), (3, iv_i x3), (4, iv_i x4), (5, iv_i x5)]) C d_X12_who_138 rfl (by decide) rfl ?_
          refine V_goto (tgt := 52) C d_X12_who_141 (by decide) ?_
          refine V_lv [3, 4, 5, 6, 7, 8, 2, 1, 0] rfl (ih (wr_i (x6 + 1)) x7 (wr_i (x8 + 1)) (ok_wr _) o_x7 (ok_wr _) h)
        · skip
          refine V_aload_n (j := 1) C d_X12_who_114 rfl rfl ?_
          refine V_getR C ck_12 fw_X12_9 d_X12_who_115 h (fun v7 h => ?_)
          refine V_sipush (v := 776) C d_X12_who_118 rfl ?_
          refine V_bipush (v := 8) C d_X12_who_121 rfl ?_
          refine V_iload (j := 8) C d_X12_who_123 rfl ?_
          refine V_imul C d_X12_who_125 ?_
          refine V_iadd C d_X12_who_126 ?_
          refine V_bipush (v := 6) C d_X12_who_127 rfl ?_
          refine V_iadd C d_X12_who_129 ?_
          refine V_iald C d_X12_who_130 (ok_wr _) h (fun v8 o8 h => ?_)
          refine V_goto (tgt := 136) C d_X12_who_131 (by decide) ?_
          refine V_istore (lv' := [(7, iv_i v8), (6, iv_i (wr_i (x6 + 1))), (0, .ref (G.1 + x0)), (1, iv_i x1), (2, iv_i x2), (3, iv_i x3), (4, iv_i x4), (5, iv_i x5), (8, iv_i x8)]) C d_X12_who_136 (by decide) rfl ?_
          refine V_iinc (j := 8) (lv' := [(8, iv_i (wr_i (x8 + 1))), (7, iv_i v8), (6, iv_i (wr_i (x6 + 1))), (0, .ref (G.1 + x0)), (1, iv_i x1), (2, iv_i x2), (3, iv_i x3), (4, iv_i x4), (5, iv_i x5)]) C d_X12_who_138 rfl (by decide) rfl ?_
          refine V_goto (tgt := 52) C d_X12_who_141 (by decide) ?_
          refine V_lv [3, 4, 5, 6, 7, 8, 2, 1, 0] rfl (ih (wr_i (x6 + 1)) v8 (wr_i (x8 + 1)) (ok_wr _) o8 (ok_wr _) h)
      · skip
        refine V_goto (tgt := 138) C d_X12_who_86 (by decide) ?_
        refine V_iinc (j := 8) (lv' := [(8, iv_i (wr_i (x8 + 1))), (0, .ref (G.1 + x0)), (1, iv_i x1), (2, iv_i x2), (3, iv_i x3), (4, iv_i x4), (5, iv_i x5), (6, iv_i x6), (7, iv_i x7)]) C d_X12_who_138 rfl (by decide) rfl ?_
        refine V_goto (tgt := 52) C d_X12_who_141 (by decide) ?_
        refine V_lv [1, 2, 3, 4, 5, 6, 7, 8, 0] rfl (ih x6 x7 (wr_i (x8 + 1)) o_x6 o_x7 (ok_wr _) h)
    · skip
      refine V_aload_n (j := 0) C d_X12_who_144 rfl rfl ?_
      refine V_getR C ck_12 fw_X12_9 d_X12_who_145 h (fun v9 h => ?_)
      refine V_sipush (v := 1046) C d_X12_who_148 rfl ?_
      refine V_iload (j := 5) C d_X12_who_151 rfl ?_
      refine V_iadd C d_X12_who_153 ?_
      refine V_iald C d_X12_who_154 (ok_wr _) h (fun v10 o10 h => ?_)
      refine V_iload_n (j := 1) C d_X12_who_155 rfl rfl ?_
      refine V_icmp_ne (tgt := 199) C d_X12_who_156 (by decide) o10 o_x1 h (fun h => ?_) (fun h => ?_)
      · skip
        refine V_iload (j := 6) C d_X12_who_159 rfl ?_
        refine V_iload (j := 4) C d_X12_who_161 rfl ?_
        refine V_icmp_ge (tgt := 199) C d_X12_who_163 (by decide) o_x6 o_x4 h (fun h => ?_) (fun h => ?_)
        · skip
          refine V_iload (j := 6) C d_X12_who_166 rfl ?_
          refine V_if_le (tgt := 192) C d_X12_who_168 (by decide) o_x6 h (fun h => ?_) (fun h => ?_)
          · skip
            refine V_iload (j := 6) C d_X12_who_192 rfl ?_
            refine V_istore (lv' := [(4, iv_i x6), (0, .ref (G.1 + x0)), (1, iv_i x1), (2, iv_i x2), (3, iv_i x3), (5, iv_i x5), (6, iv_i x6), (7, iv_i x7), (8, iv_i x8)]) C d_X12_who_194 (by decide) rfl ?_
            refine V_iload (j := 5) C d_X12_who_196 rfl ?_
            refine V_istore_n (lv' := [(3, iv_i x5), (4, iv_i x6), (0, .ref (G.1 + x0)), (1, iv_i x1), (2, iv_i x2), (5, iv_i x5), (6, iv_i x6), (7, iv_i x7), (8, iv_i x8)]) C d_X12_who_198 rfl (by decide) rfl ?_
            refine V_iinc (j := 5) (lv' := [(5, iv_i (wr_i (x5 + 1))), (3, iv_i x5), (4, iv_i x6), (0, .ref (G.1 + x0)), (1, iv_i x1), (2, iv_i x2), (6, iv_i x6), (7, iv_i x7), (8, iv_i x8)]) C d_X12_who_199 rfl (by decide) rfl ?_
            refine V_goto (tgt := 36) C d_X12_who_202 (by decide) ?_
            refine V_lv [3, 4, 5, 1, 2, 0] rfl (hk_36 x5 x6 (wr_i (x5 + 1)) o_x5 o_x6 (ok_wr _) h)
          · skip
            refine V_iload_n (j := 2) C d_X12_who_171 rfl rfl ?_
            refine V_iload (j := 7) C d_X12_who_172 rfl ?_
            refine V_isub C d_X12_who_174 ?_
            refine V_aload_n (j := 0) C d_X12_who_175 rfl rfl ?_
            refine V_getR C ck_12 fw_X12_9 d_X12_who_176 h (fun v11 h => ?_)
            refine V_sipush (v := 1054) C d_X12_who_179 rfl ?_
            refine V_iload (j := 5) C d_X12_who_182 rfl ?_
            refine V_iadd C d_X12_who_184 ?_
            refine V_iald C d_X12_who_185 (ok_wr _) h (fun v12 o12 h => ?_)
            refine V_icmp_ge (tgt := 192) C d_X12_who_186 (by decide) (ok_wr _) o12 h (fun h => ?_) (fun h => ?_)
            · skip
              refine V_goto (tgt := 199) C d_X12_who_189 (by decide) ?_
              refine V_iinc (j := 5) (lv' := [(5, iv_i (wr_i (x5 + 1))), (0, .ref (G.1 + x0)), (1, iv_i x1), (2, iv_i x2), (3, iv_i x3), (4, iv_i x4), (6, iv_i x6), (7, iv_i x7), (8, iv_i x8)]) C d_X12_who_199 rfl (by decide) rfl ?_
              refine V_goto (tgt := 36) C d_X12_who_202 (by decide) ?_
              refine V_lv [1, 2, 3, 4, 5, 0] rfl (hk_36 x3 x4 (wr_i (x5 + 1)) o_x3 o_x4 (ok_wr _) h)
            · skip
              refine V_iload (j := 6) C d_X12_who_192 rfl ?_
              refine V_istore (lv' := [(4, iv_i x6), (0, .ref (G.1 + x0)), (1, iv_i x1), (2, iv_i x2), (3, iv_i x3), (5, iv_i x5), (6, iv_i x6), (7, iv_i x7), (8, iv_i x8)]) C d_X12_who_194 (by decide) rfl ?_
              refine V_iload (j := 5) C d_X12_who_196 rfl ?_
              refine V_istore_n (lv' := [(3, iv_i x5), (4, iv_i x6), (0, .ref (G.1 + x0)), (1, iv_i x1), (2, iv_i x2), (5, iv_i x5), (6, iv_i x6), (7, iv_i x7), (8, iv_i x8)]) C d_X12_who_198 rfl (by decide) rfl ?_
              refine V_iinc (j := 5) (lv' := [(5, iv_i (wr_i (x5 + 1))), (3, iv_i x5), (4, iv_i x6), (0, .ref (G.1 + x0)), (1, iv_i x1), (2, iv_i x2), (6, iv_i x6), (7, iv_i x7), (8, iv_i x8)]) C d_X12_who_199 rfl (by decide) rfl ?_
              refine V_goto (tgt := 36) C d_X12_who_202 (by decide) ?_
              refine V_lv [3, 4, 5, 1, 2, 0] rfl (hk_36 x5 x6 (wr_i (x5 + 1)) o_x5 o_x6 (ok_wr _) h)
        · skip
          refine V_iinc (j := 5) (lv' := [(5, iv_i (wr_i (x5 + 1))), (0, .ref (G.1 + x0)), (1, iv_i x1), (2, iv_i x2), (3, iv_i x3), (4, iv_i x4), (6, iv_i x6), (7, iv_i x7), (8, iv_i x8)]) C d_X12_who_199 rfl (by decide) rfl ?_
          refine V_goto (tgt := 36) C d_X12_who_202 (by decide) ?_
          refine V_lv [1, 2, 3, 4, 5, 0] rfl (hk_36 x3 x4 (wr_i (x5 + 1)) o_x3 o_x4 (ok_wr _) h)
      · skip
        refine V_iinc (j := 5) (lv' := [(5, iv_i (wr_i (x5 + 1))), (0, .ref (G.1 + x0)), (1, iv_i x1), (2, iv_i x2), (3, iv_i x3), (4, iv_i x4), (6, iv_i x6), (7, iv_i x7), (8, iv_i x8)]) C d_X12_who_199 rfl (by decide) rfl ?_
        refine V_goto (tgt := 36) C d_X12_who_202 (by decide) ?_
        refine V_lv [1, 2, 3, 4, 5, 0] rfl (hk_36 x3 x4 (wr_i (x5 + 1)) o_x3 o_x4 (ok_wr _) h)
set_option maxHeartbeats 4000000 in
set_option maxRecDepth 100000 in
theorem t_X12_who_36 {X : XT_x} {G : GT_g} {z : Int} (C : Cx_ (K_X12_who) X G) (hR : Rx_ X G (some .int)) (M : Mem_m) (x0 : Nat) (x1 : Int) (x2 : Int) (o_x1 : ok_i x1) (o_x2 : ok_i x2) : ∀ (n : Nat) (x3 : Int) (x4 : Int) (x5 : Int) (o_x3 : ok_i x3) (o_x4 : ok_i x4) (o_x5 : ok_i x5), f_X12_who_36 G.2.2.2 M x0 x1 x2 n x3 x4 x5 = some z → V_ (K_X12_who) X G (Fq_ X G (Qi_ G M z)) M 36 [(0, .ref (G.1 + x0)), (1, iv_i x1), (2, iv_i x2), (3, iv_i x3), (4, iv_i x4), (5, iv_i x5)] [] := by
  intro n
  induction n with
  | zero => intro x3 x4 x5 o_x3 o_x4 o_x5 h; exact absurd h (by simp [f_X12_who_36])
  | succ n ih =>
    intro x3 x4 x5 o_x3 o_x4 o_x5 h
    unfold f_X12_who_36 at h
    refine V_iload (j := 5) C d_X12_who_36 rfl ?_
    refine V_bipush (v := 8) C d_X12_who_38 rfl ?_
    refine V_icmp_ge (tgt := 205) C d_X12_who_40 (by decide) o_x5 (okc rfl) h (fun h => ?_) (fun h => ?_)
    · skip
      refine V_iconst C d_X12_who_43 ?_
      refine V_istore (lv' := [(6, iv_i 0), (0, .ref (G.1 + x0)), (1, iv_i x1), (2, iv_i x2), (3, iv_i x3), (4, iv_i x4), (5, iv_i x5)]) C d_X12_who_44 (by decide) rfl ?_
      refine V_iconst C d_X12_who_46 ?_
      refine V_istore (lv' := [(7, iv_i (-1)), (6, iv_i 0), (0, .ref (G.1 + x0)), (1, iv_i x1), (2, iv_i x2), (3, iv_i x3), (4, iv_i x4), (5, iv_i x5)]) C d_X12_who_47 (by decide) rfl ?_
      refine V_iconst C d_X12_who_49 ?_
      refine V_istore (lv' := [(8, iv_i 0), (7, iv_i (-1)), (6, iv_i 0), (0, .ref (G.1 + x0)), (1, iv_i x1), (2, iv_i x2), (3, iv_i x3), (4, iv_i x4), (5, iv_i x5)]) C d_X12_who_50 (by decide) rfl ?_
      refine V_lv [3, 4, 5, 6, 7, 8, 2, 1, 0] rfl (t_X12_who_52 C hR M x0 x1 x2 x3 x4 x5 o_x1 o_x2 o_x3 o_x4 o_x5 (fun x3 x4 x5 => f_X12_who_36 G.2.2.2 M x0 x1 x2 n x3 x4 x5) (fun x3 x4 x5 o_x3 o_x4 o_x5 h9 => ih x3 x4 x5 o_x3 o_x4 o_x5 h9) FU_ 0 (-1) 0 (okc rfl) (okc rfl) (okc rfl) h)
    · skip
      refine V_iload_n (j := 3) C d_X12_who_205 rfl rfl ?_
      exact V_iret_r C hR d_X12_who_206 o_x3 h
set_option maxHeartbeats 4000000 in
set_option maxRecDepth 100000 in
theorem t_X12_who {X : XT_x} {G : GT_g} {M : Mem_m} {z : Int} (C : Cx_ (K_X12_who) X G) (hR : Rx_ X G (some .int)) (x0 : Nat) (x1 : Int) (x2 : Int) (o_x1 : ok_i x1) (o_x2 : ok_i x2) (h : f_X12_who G.2.2.2 M x0 x1 x2 = some z) : V_ (K_X12_who) X G (Fq_ X G (Qi_ G M z)) M 0 [(0, .ref (G.1 + x0)), (1, iv_i x1), (2, iv_i x2)] [] := by
  unfold f_X12_who at h
  refine V_iload_n (j := 1) C d_X12_who_0 rfl rfl ?_
  refine V_i2l C d_X12_who_1 o_x1 ?_
  refine V_lconst0 C d_X12_who_2 ?_
  refine V_ldc2 (v := 3) C d_X12_who_3 cl_X12_101 ?_
  refine V_callSri (K' := K_X12_isIn) (av := [jv_i x1, jv_i 0, jv_i 3]) (rest := []) ys_X12_isIn C (yk_X12_isIn) l1_X12_69 (by decide) d_X12_who_6 (fun v hv => ct_X12_isIn x1 0 3 o_x1 (okc rfl) (okc rfl) hv) rfl rfl (Nat.le_of_ble_eq_true rfl) h (fun v1 o1 h => ?_)
  refine V_if_eq (tgt := 24) C d_X12_who_9 (by decide) o1 h (fun h => ?_) (fun h => ?_)
  · skip
    refine V_iconst C d_X12_who_24 ?_
    exact V_iret_r C hR d_X12_who_25 (okc rfl) h
  · skip
    refine V_iload_n (j := 2) C d_X12_who_12 rfl rfl ?_
    refine V_i2l C d_X12_who_13 o_x2 ?_
    refine V_lconst0 C d_X12_who_14 ?_
    refine V_ldc2 (v := 999) C d_X12_who_15 cl_X12_87 ?_
    refine V_callSri (K' := K_X12_isIn) (av := [jv_i x2, jv_i 0, jv_i 999]) (rest := []) ys_X12_isIn C (yk_X12_isIn) l1_X12_69 (by decide) d_X12_who_18 (fun v hv => ct_X12_isIn x2 0 999 o_x2 (okc rfl) (okc rfl) hv) rfl rfl (Nat.le_of_ble_eq_true rfl) h (fun v2 o2 h => ?_)
    refine V_if_ne (tgt := 26) C d_X12_who_21 (by decide) o2 h (fun h => ?_) (fun h => ?_)
    · skip
      refine V_iconst C d_X12_who_24 ?_
      exact V_iret_r C hR d_X12_who_25 (okc rfl) h
    · skip
      refine V_bipush (v := (-4)) C d_X12_who_26 rfl ?_
      refine V_istore_n (lv' := [(3, iv_i (-4)), (0, .ref (G.1 + x0)), (1, iv_i x1), (2, iv_i x2)]) C d_X12_who_28 rfl (by decide) rfl ?_
      refine V_bipush (v := 21) C d_X12_who_29 rfl ?_
      refine V_istore (lv' := [(4, iv_i 21), (3, iv_i (-4)), (0, .ref (G.1 + x0)), (1, iv_i x1), (2, iv_i x2)]) C d_X12_who_31 (by decide) rfl ?_
      refine V_iconst C d_X12_who_33 ?_
      refine V_istore (lv' := [(5, iv_i 0), (4, iv_i 21), (3, iv_i (-4)), (0, .ref (G.1 + x0)), (1, iv_i x1), (2, iv_i x2)]) C d_X12_who_34 (by decide) rfl ?_
      refine V_lv [3, 4, 5, 2, 1, 0] rfl (t_X12_who_36 C hR M x0 x1 x2 o_x1 o_x2 FU_ (-4) 21 0 (okc rfl) (okc rfl) (okc rfl) h)
set_option maxHeartbeats 4000000 in
set_option maxRecDepth 100000 in
theorem ct_X12_who {l : Launch} {G : GT_g} {M : Mem_m} (x0 : Nat) (x1 : Int) (x2 : Int) (o_x1 : ok_i x1) (o_x2 : ok_i x2) {z : Int} (h : f_X12_who G.2.2.2 M x0 x1 x2 = some z) : MI_ l yX12_who K_X12_who (some .int) G M [.ref (G.1 + x0), iv_i x1, iv_i x2] M z :=
  met_of (by decide +kernel) rfl (Nat.le_of_ble_eq_true rfl) (fun X hl C hR => by subst hl; exact t_X12_who C hR x0 x1 x2 o_x1 o_x2 h)
theorem d_X12_noneFits_0 : decode cX12_noneFits 0 = .ok (.iconst 0, 1) := by decide +kernel
theorem d_X12_noneFits_1 : decode cX12_noneFits 1 = .ok (.istore_n 2, 1) := by decide +kernel
theorem d_X12_noneFits_2 : decode cX12_noneFits 2 = .ok (.iload_n 2, 1) := by decide +kernel
theorem d_X12_noneFits_3 : decode cX12_noneFits 3 = .ok (.bipush 24, 2) := by decide +kernel
theorem d_X12_noneFits_5 : decode cX12_noneFits 5 = .ok (.if_icmp .ge 68, 3) := by decide +kernel
theorem d_X12_noneFits_8 : decode cX12_noneFits 8 = .ok (.iconst 1, 1) := by decide +kernel
theorem d_X12_noneFits_9 : decode cX12_noneFits 9 = .ok (.istore_n 3, 1) := by decide +kernel
theorem d_X12_noneFits_10 : decode cX12_noneFits 10 = .ok (.iconst 0, 1) := by decide +kernel
theorem d_X12_noneFits_11 : decode cX12_noneFits 11 = .ok (.istore 4, 2) := by decide +kernel
theorem d_X12_noneFits_13 : decode cX12_noneFits 13 = .ok (.iload 4, 2) := by decide +kernel
theorem d_X12_noneFits_15 : decode cX12_noneFits 15 = .ok (.aload_n 0, 1) := by decide +kernel
theorem d_X12_noneFits_16 : decode cX12_noneFits 16 = .ok (.getfield 9, 3) := by decide +kernel
theorem d_X12_noneFits_19 : decode cX12_noneFits 19 = .ok (.sipush 1065, 3) := by decide +kernel
theorem d_X12_noneFits_22 : decode cX12_noneFits 22 = .ok (.iaload, 1) := by decide +kernel
theorem d_X12_noneFits_23 : decode cX12_noneFits 23 = .ok (.if_icmp .ge 38, 3) := by decide +kernel
theorem d_X12_noneFits_26 : decode cX12_noneFits 26 = .ok (.iload_n 3, 1) := by decide +kernel
theorem d_X12_noneFits_27 : decode cX12_noneFits 27 = .ok (.ifCond .eq 34, 3) := by decide +kernel
theorem d_X12_noneFits_30 : decode cX12_noneFits 30 = .ok (.iload_n 1, 1) := by decide +kernel
theorem d_X12_noneFits_31 : decode cX12_noneFits 31 = .ok (.iload 4, 2) := by decide +kernel
theorem d_X12_noneFits_33 : decode cX12_noneFits 33 = .ok (.ishr, 1) := by decide +kernel
theorem d_X12_noneFits_34 : decode cX12_noneFits 34 = .ok (.iconst 1, 1) := by decide +kernel
theorem d_X12_noneFits_35 : decode cX12_noneFits 35 = .ok (.iand, 1) := by decide +kernel
theorem d_X12_noneFits_36 : decode cX12_noneFits 36 = .ok (.ifCond .eq 13, 3) := by decide +kernel
theorem d_X12_noneFits_39 : decode cX12_noneFits 39 = .ok (.aload_n 0, 1) := by decide +kernel
theorem d_X12_noneFits_40 : decode cX12_noneFits 40 = .ok (.iload 4, 2) := by decide +kernel
theorem d_X12_noneFits_42 : decode cX12_noneFits 42 = .ok (.iload_n 2, 1) := by decide +kernel
theorem d_X12_noneFits_43 : decode cX12_noneFits 43 = .ok (.invokevirtual 233, 3) := by decide +kernel
theorem d_X12_noneFits_46 : decode cX12_noneFits 46 = .ok (.ifCond .eq 7, 3) := by decide +kernel
theorem d_X12_noneFits_49 : decode cX12_noneFits 49 = .ok (.iconst 1, 1) := by decide +kernel
theorem d_X12_noneFits_50 : decode cX12_noneFits 50 = .ok (.goto 4, 3) := by decide +kernel
theorem d_X12_noneFits_53 : decode cX12_noneFits 53 = .ok (.iconst 0, 1) := by decide +kernel
theorem d_X12_noneFits_54 : decode cX12_noneFits 54 = .ok (.istore_n 3, 1) := by decide +kernel
theorem d_X12_noneFits_55 : decode cX12_noneFits 55 = .ok (.iinc 4 1, 3) := by decide +kernel
theorem d_X12_noneFits_58 : decode cX12_noneFits 58 = .ok (.goto (-45), 3) := by decide +kernel
theorem d_X12_noneFits_61 : decode cX12_noneFits 61 = .ok (.iload_n 3, 1) := by decide +kernel
theorem d_X12_noneFits_62 : decode cX12_noneFits 62 = .ok (.ifCond .eq 5, 3) := by decide +kernel
theorem d_X12_noneFits_65 : decode cX12_noneFits 65 = .ok (.iconst 0, 1) := by decide +kernel
theorem d_X12_noneFits_66 : decode cX12_noneFits 66 = .ok (.ireturn, 1) := by decide +kernel
theorem d_X12_noneFits_67 : decode cX12_noneFits 67 = .ok (.iinc 2 1, 3) := by decide +kernel
theorem d_X12_noneFits_70 : decode cX12_noneFits 70 = .ok (.goto (-68), 3) := by decide +kernel
theorem d_X12_noneFits_73 : decode cX12_noneFits 73 = .ok (.iconst 1, 1) := by decide +kernel
theorem d_X12_noneFits_74 : decode cX12_noneFits 74 = .ok (.ireturn, 1) := by decide +kernel
set_option maxHeartbeats 4000000 in
set_option maxRecDepth 100000 in
theorem t_X12_noneFits_61 {X : XT_x} {G : GT_g} {z : Int} (C : Cx_ (K_X12_noneFits) X G) (hR : Rx_ X G (some .boolean)) (M : Mem_m) (x0 : Nat) (x1 : Int) (x2 : Int) (x3 : Int) (o_x1 : ok_i x1) (o_x2 : ok_i x2) (o_x3 : ok_i x3) (k_2 : Int → Option Int) (hk_2 : ∀ (x2 : Int) (o_x2 : ok_i x2), k_2 x2 = some z → V_ (K_X12_noneFits) X G (Fq_ X G (Qi_ G M z)) M 2 [(0, .ref (G.1 + x0)), (1, iv_i x1), (2, iv_i x2)] []) (h : f_X12_noneFits_61 G.2.2.2 k_2 M x0 x1 x2 x3 = some z) : V_ (K_X12_noneFits) X G (Fq_ X G (Qi_ G M z)) M 61 [(0, .ref (G.1 + x0)), (1, iv_i x1), (2, iv_i x2), (3, iv_i x3)] [] := by
  unfold f_X12_noneFits_61 at h
  refine V_iload_n (j := 3) C d_X12_noneFits_61 rfl rfl ?_
  refine V_if_eq (tgt := 67) C d_X12_noneFits_62 (by decide) o_x3 h (fun h => ?_) (fun h => ?_)
  · skip
    refine V_iinc (j := 2) (lv' := [(2, iv_i (wr_i (x2 + 1))), (0, .ref (G.1 + x0)), (1, iv_i x1), (3, iv_i x3)]) C d_X12_noneFits_67 rfl (by decide) rfl ?_
    refine V_goto (tgt := 2) C d_X12_noneFits_70 (by decide) ?_
    refine V_lv [1, 2, 0] rfl (hk_2 (wr_i (x2 + 1)) (ok_wr _) h)
  · skip
    refine V_iconst C d_X12_noneFits_65 ?_
    exact V_zret_r C hR d_X12_noneFits_66 (Or.inl rfl) h
set_option maxHeartbeats 4000000 in
set_option maxRecDepth 100000 in
theorem t_X12_noneFits_13 {X : XT_x} {G : GT_g} {z : Int} (C : Cx_ (K_X12_noneFits) X G) (hR : Rx_ X G (some .boolean)) (M : Mem_m) (x0 : Nat) (x1 : Int) (x2 : Int) (o_x1 : ok_i x1) (o_x2 : ok_i x2) (k_2 : Int → Option Int) (hk_2 : ∀ (x2 : Int) (o_x2 : ok_i x2), k_2 x2 = some z → V_ (K_X12_noneFits) X G (Fq_ X G (Qi_ G M z)) M 2 [(0, .ref (G.1 + x0)), (1, iv_i x1), (2, iv_i x2)] []) : ∀ (n : Nat) (x3 : Int) (x4 : Int) (o_x3 : ok_i x3) (o_x4 : ok_i x4), f_X12_noneFits_13 G.2.2.2 k_2 M x0 x1 x2 n x3 x4 = some z → V_ (K_X12_noneFits) X G (Fq_ X G (Qi_ G M z)) M 13 [(0, .ref (G.1 + x0)), (1, iv_i x1), (2, iv_i x2), (3, iv_i x3), (4, iv_i x4)] [] := by
  intro n
  induction n with
  | zero => intro x3 x4 o_x3 o_x4 h; exact absurd h (by simp [f_X12_noneFits_13])
  | succ n ih =>
    intro x3 x4 o_x3 o_x4 h
    unfold f_X12_noneFits_13 at h
    refine V_iload (j := 4) C d_X12_noneFits_13 rfl ?_
    refine V_aload_n (j := 0) C d_X12_noneFits_15 rfl rfl ?_
    refine V_getR C ck_12 fw_X12_9 d_X12_noneFits_16 h (fun v1 h => ?_)
    refine V_sipush (v := 1065) C d_X12_noneFits_19 rfl ?_
    refine V_iald C d_X12_noneFits_22 (okc rfl) h (fun v2 o2 h => ?_)
    refine V_icmp_ge (tgt := 61) C d_X12_noneFits_23 (by decide) o_x4 o2 h (fun h => ?_) (fun h => ?_)
    · skip
      refine V_iload_n (j := 3) C d_X12_noneFits_26 rfl rfl ?_
      refine V_if_eq (tgt := 61) C d_X12_noneFits_27 (by decide) o_x3 h (fun h => ?_) (fun h => ?_)
      · skip
        refine V_lv [0, 1, 2, 3] rfl (t_X12_noneFits_61 C hR M x0 x1 x2 x3 o_x1 o_x2 o_x3 k_2 hk_2 h)
      · skip
        refine V_iload_n (j := 1) C d_X12_noneFits_30 rfl rfl ?_
        refine V_iload (j := 4) C d_X12_noneFits_31 rfl ?_
        refine V_ishr C d_X12_noneFits_33 ?_
        refine V_iconst C d_X12_noneFits_34 ?_
        refine V_iand C d_X12_noneFits_35 ?_
        refine V_if_eq (tgt := 49) C d_X12_noneFits_36 (by decide) (ok_I _) h (fun h => ?_) (fun h => ?_)
        · skip
          refine V_iconst C d_X12_noneFits_49 ?_
          refine V_goto (tgt := 54) C d_X12_noneFits_50 (by decide) ?_
          refine V_istore_n (lv' := [(3, iv_i 1), (0, .ref (G.1 + x0)), (1, iv_i x1), (2, iv_i x2), (4, iv_i x4)]) C d_X12_noneFits_54 rfl (by decide) rfl ?_
          refine V_iinc (j := 4) (lv' := [(4, iv_i (wr_i (x4 + 1))), (3, iv_i 1), (0, .ref (G.1 + x0)), (1, iv_i x1), (2, iv_i x2)]) C d_X12_noneFits_55 rfl (by decide) rfl ?_
          refine V_goto (tgt := 13) C d_X12_noneFits_58 (by decide) ?_
          refine V_lv [2, 3, 4, 1, 0] rfl (ih 1 (wr_i (x4 + 1)) (okc rfl) (ok_wr _) h)
        · skip
          refine V_aload_n (j := 0) C d_X12_noneFits_39 rfl rfl ?_
          refine V_iload (j := 4) C d_X12_noneFits_40 rfl ?_
          refine V_iload_n (j := 2) C d_X12_noneFits_42 rfl rfl ?_
          refine V_callVri (K' := K_X12_fitsSaid) (a := x0) (ci := 12) (av := [iv_i x4, iv_i x2]) (rest := []) yi_X12_fitsSaid (by decide) rfl C (yk_X12_fitsSaid) l1_X12_233 (by decide) d_X12_noneFits_43 (fun v hv => ct_X12_fitsSaid x0 x4 x2 o_x4 o_x2 hv) rfl rfl (Nat.le_of_ble_eq_true rfl) h (fun v3 o3 h => ?_)
          refine V_if_eq (tgt := 53) C d_X12_noneFits_46 (by decide) o3 h (fun h => ?_) (fun h => ?_)
          · skip
            refine V_iconst C d_X12_noneFits_53 ?_
            refine V_istore_n (lv' := [(3, iv_i 0), (0, .ref (G.1 + x0)), (1, iv_i x1), (2, iv_i x2), (4, iv_i x4)]) C d_X12_noneFits_54 rfl (by decide) rfl ?_
            refine V_iinc (j := 4) (lv' := [(4, iv_i (wr_i (x4 + 1))), (3, iv_i 0), (0, .ref (G.1 + x0)), (1, iv_i x1), (2, iv_i x2)]) C d_X12_noneFits_55 rfl (by decide) rfl ?_
            refine V_goto (tgt := 13) C d_X12_noneFits_58 (by decide) ?_
            refine V_lv [2, 3, 4, 1, 0] rfl (ih 0 (wr_i (x4 + 1)) (okc rfl) (ok_wr _) h)
          · skip
            refine V_iconst C d_X12_noneFits_49 ?_
            refine V_goto (tgt := 54) C d_X12_noneFits_50 (by decide) ?_
            refine V_istore_n (lv' := [(3, iv_i 1), (0, .ref (G.1 + x0)), (1, iv_i x1), (2, iv_i x2), (4, iv_i x4)]) C d_X12_noneFits_54 rfl (by decide) rfl ?_
            refine V_iinc (j := 4) (lv' := [(4, iv_i (wr_i (x4 + 1))), (3, iv_i 1), (0, .ref (G.1 + x0)), (1, iv_i x1), (2, iv_i x2)]) C d_X12_noneFits_55 rfl (by decide) rfl ?_
            refine V_goto (tgt := 13) C d_X12_noneFits_58 (by decide) ?_
            refine V_lv [2, 3, 4, 1, 0] rfl (ih 1 (wr_i (x4 + 1)) (okc rfl) (ok_wr _) h)
    · skip
      refine V_lv [0, 1, 2, 3] rfl (t_X12_noneFits_61 C hR M x0 x1 x2 x3 o_x1 o_x2 o_x3 k_2 hk_2 h)
set_option maxHeartbeats 4000000 in
set_option maxRecDepth 100000 in
theorem t_X12_noneFits_2 {X : XT_x} {G : GT_g} {z : Int} (C : Cx_ (K_X12_noneFits) X G) (hR : Rx_ X G (some .boolean)) (M : Mem_m) (x0 : Nat) (x1 : Int) (o_x1 : ok_i x1) : ∀ (n : Nat) (x2 : Int) (o_x2 : ok_i x2), f_X12_noneFits_2 G.2.2.2 M x0 x1 n x2 = some z → V_ (K_X12_noneFits) X G (Fq_ X G (Qi_ G M z)) M 2 [(0, .ref (G.1 + x0)), (1, iv_i x1), (2, iv_i x2)] [] := by
  intro n
  induction n with
  | zero => intro x2 o_x2 h; exact absurd h (by simp [f_X12_noneFits_2])
  | succ n ih =>
    intro x2 o_x2 h
    unfold f_X12_noneFits_2 at h
    refine V_iload_n (j := 2) C d_X12_noneFits_2 rfl rfl ?_
    refine V_bipush (v := 24) C d_X12_noneFits_3 rfl ?_
    refine V_icmp_ge (tgt := 73) C d_X12_noneFits_5 (by decide) o_x2 (okc rfl) h (fun h => ?_) (fun h => ?_)
    · skip
      refine V_iconst C d_X12_noneFits_8 ?_
      refine V_istore_n (lv' := [(3, iv_i 1), (0, .ref (G.1 + x0)), (1, iv_i x1), (2, iv_i x2)]) C d_X12_noneFits_9 rfl (by decide) rfl ?_
      refine V_iconst C d_X12_noneFits_10 ?_
      refine V_istore (lv' := [(4, iv_i 0), (3, iv_i 1), (0, .ref (G.1 + x0)), (1, iv_i x1), (2, iv_i x2)]) C d_X12_noneFits_11 (by decide) rfl ?_
      refine V_lv [2, 3, 4, 1, 0] rfl (t_X12_noneFits_13 C hR M x0 x1 x2 o_x1 o_x2 (fun x2 => f_X12_noneFits_2 G.2.2.2 M x0 x1 n x2) (fun x2 o_x2 h9 => ih x2 o_x2 h9) FU_ 1 0 (okc rfl) (okc rfl) h)
    · skip
      refine V_iconst C d_X12_noneFits_73 ?_
      exact V_zret_r C hR d_X12_noneFits_74 (Or.inr rfl) h
set_option maxHeartbeats 4000000 in
set_option maxRecDepth 100000 in
theorem t_X12_noneFits {X : XT_x} {G : GT_g} {M : Mem_m} {z : Int} (C : Cx_ (K_X12_noneFits) X G) (hR : Rx_ X G (some .boolean)) (x0 : Nat) (x1 : Int) (o_x1 : ok_i x1) (h : f_X12_noneFits G.2.2.2 M x0 x1 = some z) : V_ (K_X12_noneFits) X G (Fq_ X G (Qi_ G M z)) M 0 [(0, .ref (G.1 + x0)), (1, iv_i x1)] [] := by
  unfold f_X12_noneFits at h
  refine V_iconst C d_X12_noneFits_0 ?_
  refine V_istore_n (lv' := [(2, iv_i 0), (0, .ref (G.1 + x0)), (1, iv_i x1)]) C d_X12_noneFits_1 rfl (by decide) rfl ?_
  refine V_lv [1, 2, 0] rfl (t_X12_noneFits_2 C hR M x0 x1 o_x1 FU_ 0 (okc rfl) h)
set_option maxHeartbeats 4000000 in
set_option maxRecDepth 100000 in
theorem ct_X12_noneFits {l : Launch} {G : GT_g} {M : Mem_m} (x0 : Nat) (x1 : Int) (o_x1 : ok_i x1) {z : Int} (h : f_X12_noneFits G.2.2.2 M x0 x1 = some z) : MI_ l yX12_noneFits K_X12_noneFits (some .boolean) G M [.ref (G.1 + x0), iv_i x1] M z :=
  met_of (by decide +kernel) rfl (Nat.le_of_ble_eq_true rfl) (fun X hl C hR => by subst hl; exact t_X12_noneFits C hR x0 x1 o_x1 h)
theorem d_X12_none_0 : decode cX12_none 0 = .ok (.iload_n 1, 1) := by decide +kernel
theorem d_X12_none_1 : decode cX12_none 1 = .ok (.invokestatic 238, 3) := by decide +kernel
theorem d_X12_none_4 : decode cX12_none 4 = .ok (.ifCond .ne 5, 3) := by decide +kernel
theorem d_X12_none_7 : decode cX12_none 7 = .ok (.iconst (-1), 1) := by decide +kernel
theorem d_X12_none_8 : decode cX12_none 8 = .ok (.ireturn, 1) := by decide +kernel
theorem d_X12_none_9 : decode cX12_none 9 = .ok (.iconst 1, 1) := by decide +kernel
theorem d_X12_none_10 : decode cX12_none 10 = .ok (.istore_n 2, 1) := by decide +kernel
theorem d_X12_none_11 : decode cX12_none 11 = .ok (.iload_n 2, 1) := by decide +kernel
theorem d_X12_none_12 : decode cX12_none 12 = .ok (.iconst 4, 1) := by decide +kernel
theorem d_X12_none_13 : decode cX12_none 13 = .ok (.if_icmp .ge 202, 3) := by decide +kernel
theorem d_X12_none_16 : decode cX12_none 16 = .ok (.bipush (-4), 2) := by decide +kernel
theorem d_X12_none_18 : decode cX12_none 18 = .ok (.istore_n 3, 1) := by decide +kernel
theorem d_X12_none_19 : decode cX12_none 19 = .ok (.iconst 0, 1) := by decide +kernel
theorem d_X12_none_20 : decode cX12_none 20 = .ok (.istore 4, 2) := by decide +kernel
theorem d_X12_none_22 : decode cX12_none 22 = .ok (.iload 4, 2) := by decide +kernel
theorem d_X12_none_24 : decode cX12_none 24 = .ok (.aload_n 0, 1) := by decide +kernel
theorem d_X12_none_25 : decode cX12_none 25 = .ok (.getfield 9, 3) := by decide +kernel
theorem d_X12_none_28 : decode cX12_none 28 = .ok (.sipush 1065, 3) := by decide +kernel
theorem d_X12_none_31 : decode cX12_none 31 = .ok (.iaload, 1) := by decide +kernel
theorem d_X12_none_32 : decode cX12_none 32 = .ok (.if_icmp .ge 171, 3) := by decide +kernel
theorem d_X12_none_35 : decode cX12_none 35 = .ok (.iload_n 2, 1) := by decide +kernel
theorem d_X12_none_36 : decode cX12_none 36 = .ok (.iconst 1, 1) := by decide +kernel
theorem d_X12_none_37 : decode cX12_none 37 = .ok (.if_icmp .le 10, 3) := by decide +kernel
theorem d_X12_none_40 : decode cX12_none 40 = .ok (.iload 4, 2) := by decide +kernel
theorem d_X12_none_42 : decode cX12_none 42 = .ok (.iconst 1, 1) := by decide +kernel
theorem d_X12_none_43 : decode cX12_none 43 = .ok (.iadd, 1) := by decide +kernel
theorem d_X12_none_44 : decode cX12_none 44 = .ok (.goto 5, 3) := by decide +kernel
theorem d_X12_none_47 : decode cX12_none 47 = .ok (.iload 4, 2) := by decide +kernel
theorem d_X12_none_49 : decode cX12_none 49 = .ok (.istore 5, 2) := by decide +kernel
theorem d_X12_none_51 : decode cX12_none 51 = .ok (.iload 5, 2) := by decide +kernel
theorem d_X12_none_53 : decode cX12_none 53 = .ok (.iload_n 2, 1) := by decide +kernel
theorem d_X12_none_54 : decode cX12_none 54 = .ok (.iconst 1, 1) := by decide +kernel
theorem d_X12_none_55 : decode cX12_none 55 = .ok (.if_icmp .le 14, 3) := by decide +kernel
theorem d_X12_none_58 : decode cX12_none 58 = .ok (.aload_n 0, 1) := by decide +kernel
theorem d_X12_none_59 : decode cX12_none 59 = .ok (.getfield 9, 3) := by decide +kernel
theorem d_X12_none_62 : decode cX12_none 62 = .ok (.sipush 1065, 3) := by decide +kernel
theorem d_X12_none_65 : decode cX12_none 65 = .ok (.iaload, 1) := by decide +kernel
theorem d_X12_none_66 : decode cX12_none 66 = .ok (.goto 7, 3) := by decide +kernel
theorem d_X12_none_69 : decode cX12_none 69 = .ok (.iload 4, 2) := by decide +kernel
theorem d_X12_none_71 : decode cX12_none 71 = .ok (.iconst 1, 1) := by decide +kernel
theorem d_X12_none_72 : decode cX12_none 72 = .ok (.iadd, 1) := by decide +kernel
theorem d_X12_none_73 : decode cX12_none 73 = .ok (.if_icmp .ge 124, 3) := by decide +kernel
theorem d_X12_none_76 : decode cX12_none 76 = .ok (.iload_n 2, 1) := by decide +kernel
theorem d_X12_none_77 : decode cX12_none 77 = .ok (.iconst 2, 1) := by decide +kernel
theorem d_X12_none_78 : decode cX12_none 78 = .ok (.if_icmp .le 10, 3) := by decide +kernel
theorem d_X12_none_81 : decode cX12_none 81 = .ok (.iload 5, 2) := by decide +kernel
theorem d_X12_none_83 : decode cX12_none 83 = .ok (.iconst 1, 1) := by decide +kernel
theorem d_X12_none_84 : decode cX12_none 84 = .ok (.iadd, 1) := by decide +kernel
theorem d_X12_none_85 : decode cX12_none 85 = .ok (.goto 5, 3) := by decide +kernel
theorem d_X12_none_88 : decode cX12_none 88 = .ok (.iload 5, 2) := by decide +kernel
theorem d_X12_none_90 : decode cX12_none 90 = .ok (.istore 6, 2) := by decide +kernel
theorem d_X12_none_92 : decode cX12_none 92 = .ok (.iload 6, 2) := by decide +kernel
theorem d_X12_none_94 : decode cX12_none 94 = .ok (.iload_n 2, 1) := by decide +kernel
theorem d_X12_none_95 : decode cX12_none 95 = .ok (.iconst 2, 1) := by decide +kernel
theorem d_X12_none_96 : decode cX12_none 96 = .ok (.if_icmp .le 14, 3) := by decide +kernel
theorem d_X12_none_99 : decode cX12_none 99 = .ok (.aload_n 0, 1) := by decide +kernel
theorem d_X12_none_100 : decode cX12_none 100 = .ok (.getfield 9, 3) := by decide +kernel
theorem d_X12_none_103 : decode cX12_none 103 = .ok (.sipush 1065, 3) := by decide +kernel
theorem d_X12_none_106 : decode cX12_none 106 = .ok (.iaload, 1) := by decide +kernel
theorem d_X12_none_107 : decode cX12_none 107 = .ok (.goto 7, 3) := by decide +kernel
theorem d_X12_none_110 : decode cX12_none 110 = .ok (.iload 5, 2) := by decide +kernel
theorem d_X12_none_112 : decode cX12_none 112 = .ok (.iconst 1, 1) := by decide +kernel
theorem d_X12_none_113 : decode cX12_none 113 = .ok (.iadd, 1) := by decide +kernel
theorem d_X12_none_114 : decode cX12_none 114 = .ok (.if_icmp .ge 77, 3) := by decide +kernel
theorem d_X12_none_117 : decode cX12_none 117 = .ok (.iconst 1, 1) := by decide +kernel
theorem d_X12_none_118 : decode cX12_none 118 = .ok (.iload 4, 2) := by decide +kernel
theorem d_X12_none_120 : decode cX12_none 120 = .ok (.ishl, 1) := by decide +kernel
theorem d_X12_none_121 : decode cX12_none 121 = .ok (.iconst 1, 1) := by decide +kernel
theorem d_X12_none_122 : decode cX12_none 122 = .ok (.iload 5, 2) := by decide +kernel
theorem d_X12_none_124 : decode cX12_none 124 = .ok (.ishl, 1) := by decide +kernel
theorem d_X12_none_125 : decode cX12_none 125 = .ok (.ior, 1) := by decide +kernel
theorem d_X12_none_126 : decode cX12_none 126 = .ok (.iconst 1, 1) := by decide +kernel
theorem d_X12_none_127 : decode cX12_none 127 = .ok (.iload 6, 2) := by decide +kernel
theorem d_X12_none_129 : decode cX12_none 129 = .ok (.ishl, 1) := by decide +kernel
theorem d_X12_none_130 : decode cX12_none 130 = .ok (.ior, 1) := by decide +kernel
theorem d_X12_none_131 : decode cX12_none 131 = .ok (.istore 7, 2) := by decide +kernel
theorem d_X12_none_133 : decode cX12_none 133 = .ok (.aload_n 0, 1) := by decide +kernel
theorem d_X12_none_134 : decode cX12_none 134 = .ok (.iload 4, 2) := by decide +kernel
theorem d_X12_none_136 : decode cX12_none 136 = .ok (.iload_n 1, 1) := by decide +kernel
theorem d_X12_none_137 : decode cX12_none 137 = .ok (.invokevirtual 230, 3) := by decide +kernel
theorem d_X12_none_140 : decode cX12_none 140 = .ok (.ifCond .eq 45, 3) := by decide +kernel
theorem d_X12_none_143 : decode cX12_none 143 = .ok (.aload_n 0, 1) := by decide +kernel
theorem d_X12_none_144 : decode cX12_none 144 = .ok (.iload 5, 2) := by decide +kernel
theorem d_X12_none_146 : decode cX12_none 146 = .ok (.iload_n 1, 1) := by decide +kernel
theorem d_X12_none_147 : decode cX12_none 147 = .ok (.invokevirtual 230, 3) := by decide +kernel
theorem d_X12_none_150 : decode cX12_none 150 = .ok (.ifCond .eq 35, 3) := by decide +kernel
theorem d_X12_none_153 : decode cX12_none 153 = .ok (.aload_n 0, 1) := by decide +kernel
theorem d_X12_none_154 : decode cX12_none 154 = .ok (.iload 6, 2) := by decide +kernel
theorem d_X12_none_156 : decode cX12_none 156 = .ok (.iload_n 1, 1) := by decide +kernel
theorem d_X12_none_157 : decode cX12_none 157 = .ok (.invokevirtual 230, 3) := by decide +kernel
theorem d_X12_none_160 : decode cX12_none 160 = .ok (.ifCond .eq 25, 3) := by decide +kernel
theorem d_X12_none_163 : decode cX12_none 163 = .ok (.iload_n 3, 1) := by decide +kernel
theorem d_X12_none_164 : decode cX12_none 164 = .ok (.ifCond .lt 9, 3) := by decide +kernel
theorem d_X12_none_167 : decode cX12_none 167 = .ok (.iload 7, 2) := by decide +kernel
theorem d_X12_none_169 : decode cX12_none 169 = .ok (.iload_n 3, 1) := by decide +kernel
theorem d_X12_none_170 : decode cX12_none 170 = .ok (.if_icmp .ge 15, 3) := by decide +kernel
theorem d_X12_none_173 : decode cX12_none 173 = .ok (.aload_n 0, 1) := by decide +kernel
theorem d_X12_none_174 : decode cX12_none 174 = .ok (.iload 7, 2) := by decide +kernel
theorem d_X12_none_176 : decode cX12_none 176 = .ok (.invokevirtual 260, 3) := by decide +kernel
theorem d_X12_none_179 : decode cX12_none 179 = .ok (.ifCond .eq 6, 3) := by decide +kernel
theorem d_X12_none_182 : decode cX12_none 182 = .ok (.iload 7, 2) := by decide +kernel
theorem d_X12_none_184 : decode cX12_none 184 = .ok (.istore_n 3, 1) := by decide +kernel
theorem d_X12_none_185 : decode cX12_none 185 = .ok (.iinc 6 1, 3) := by decide +kernel
theorem d_X12_none_188 : decode cX12_none 188 = .ok (.goto (-96), 3) := by decide +kernel
theorem d_X12_none_191 : decode cX12_none 191 = .ok (.iinc 5 1, 3) := by decide +kernel
theorem d_X12_none_194 : decode cX12_none 194 = .ok (.goto (-143), 3) := by decide +kernel
theorem d_X12_none_197 : decode cX12_none 197 = .ok (.iinc 4 1, 3) := by decide +kernel
theorem d_X12_none_200 : decode cX12_none 200 = .ok (.goto (-178), 3) := by decide +kernel
theorem d_X12_none_203 : decode cX12_none 203 = .ok (.iload_n 3, 1) := by decide +kernel
theorem d_X12_none_204 : decode cX12_none 204 = .ok (.ifCond .lt 5, 3) := by decide +kernel
theorem d_X12_none_207 : decode cX12_none 207 = .ok (.iload_n 3, 1) := by decide +kernel
theorem d_X12_none_208 : decode cX12_none 208 = .ok (.ireturn, 1) := by decide +kernel
theorem d_X12_none_209 : decode cX12_none 209 = .ok (.iinc 2 1, 3) := by decide +kernel
theorem d_X12_none_212 : decode cX12_none 212 = .ok (.goto (-201), 3) := by decide +kernel
theorem d_X12_none_215 : decode cX12_none 215 = .ok (.bipush (-4), 2) := by decide +kernel
theorem d_X12_none_217 : decode cX12_none 217 = .ok (.ireturn, 1) := by decide +kernel
set_option maxHeartbeats 4000000 in
set_option maxRecDepth 100000 in
theorem t_X12_none_173 {X : XT_x} {G : GT_g} {z : Int} (C : Cx_ (K_X12_none) X G) (hR : Rx_ X G (some .int)) (M : Mem_m) (x0 : Nat) (x1 : Int) (x2 : Int) (x3 : Int) (x4 : Int) (x5 : Int) (x6 : Int) (x7 : Int) (o_x1 : ok_i x1) (o_x2 : ok_i x2) (o_x3 : ok_i x3) (o_x4 : ok_i x4) (o_x5 : ok_i x5) (o_x6 : ok_i x6) (o_x7 : ok_i x7) (k_11 : Int → Option Int) (hk_11 : ∀ (x2 : Int) (o_x2 : ok_i x2), k_11 x2 = some z → V_ (K_X12_none) X G (Fq_ X G (Qi_ G M z)) M 11 [(0, .ref (G.1 + x0)), (1, iv_i x1), (2, iv_i x2)] []) (k_22 : Int → Int → Option Int) (hk_22 : ∀ (x3 : Int) (x4 : Int) (o_x3 : ok_i x3) (o_x4 : ok_i x4), k_22 x3 x4 = some z → V_ (K_X12_none) X G (Fq_ X G (Qi_ G M z)) M 22 [(0, .ref (G.1 + x0)), (1, iv_i x1), (2, iv_i x2), (3, iv_i x3), (4, iv_i x4)] []) (k_51 : Int → Int → Option Int) (hk_51 : ∀ (x3 : Int) (x5 : Int) (o_x3 : ok_i x3) (o_x5 : ok_i x5), k_51 x3 x5 = some z → V_ (K_X12_none) X G (Fq_ X G (Qi_ G M z)) M 51 [(0, .ref (G.1 + x0)), (1, iv_i x1), (2, iv_i x2), (3, iv_i x3), (4, iv_i x4), (5, iv_i x5)] []) (k_92 : Int → Int → Option Int) (hk_92 : ∀ (x3 : Int) (x6 : Int) (o_x3 : ok_i x3) (o_x6 : ok_i x6), k_92 x3 x6 = some z → V_ (K_X12_none) X G (Fq_ X G (Qi_ G M z)) M 92 [(0, .ref (G.1 + x0)), (1, iv_i x1), (2, iv_i x2), (3, iv_i x3), (4, iv_i x4), (5, iv_i x5), (6, iv_i x6)] []) (h : f_X12_none_173 G.2.2.2 k_11 k_22 k_51 k_92 M x0 x1 x2 x3 x4 x5 x6 x7 = some z) : V_ (K_X12_none) X G (Fq_ X G (Qi_ G M z)) M 173 [(0, .ref (G.1 + x0)), (1, iv_i x1), (2, iv_i x2), (3, iv_i x3), (4, iv_i x4), (5, iv_i x5), (6, iv_i x6), (7, iv_i x7)] [] := by
  unfold f_X12_none_173 at h
  refine V_aload_n (j := 0) C d_X12_none_173 rfl rfl ?_
  refine V_iload (j := 7) C d_X12_none_174 rfl ?_
  refine V_callVri (K' := K_X12_noneFits) (a := x0) (ci := 12) (av := [iv_i x7]) (rest := []) yi_X12_noneFits (by decide) rfl C (yk_X12_noneFits) l1_X12_260 (by decide) d_X12_none_176 (fun v hv => ct_X12_noneFits x0 x7 o_x7 hv) rfl rfl (Nat.le_of_ble_eq_true rfl) h (fun v1 o1 h => ?_)
  refine V_if_eq (tgt := 185) C d_X12_none_179 (by decide) o1 h (fun h => ?_) (fun h => ?_)
  · skip
    refine V_iinc (j := 6) (lv' := [(6, iv_i (wr_i (x6 + 1))), (0, .ref (G.1 + x0)), (1, iv_i x1), (2, iv_i x2), (3, iv_i x3), (4, iv_i x4), (5, iv_i x5), (7, iv_i x7)]) C d_X12_none_185 rfl (by decide) rfl ?_
    refine V_goto (tgt := 92) C d_X12_none_188 (by decide) ?_
    refine V_lv [1, 2, 3, 4, 5, 6, 0] rfl (hk_92 x3 (wr_i (x6 + 1)) o_x3 (ok_wr _) h)
  · skip
    refine V_iload (j := 7) C d_X12_none_182 rfl ?_
    refine V_istore_n (lv' := [(3, iv_i x7), (0, .ref (G.1 + x0)), (1, iv_i x1), (2, iv_i x2), (4, iv_i x4), (5, iv_i x5), (6, iv_i x6), (7, iv_i x7)]) C d_X12_none_184 rfl (by decide) rfl ?_
    refine V_iinc (j := 6) (lv' := [(6, iv_i (wr_i (x6 + 1))), (3, iv_i x7), (0, .ref (G.1 + x0)), (1, iv_i x1), (2, iv_i x2), (4, iv_i x4), (5, iv_i x5), (7, iv_i x7)]) C d_X12_none_185 rfl (by decide) rfl ?_
    refine V_goto (tgt := 92) C d_X12_none_188 (by decide) ?_
    refine V_lv [2, 3, 4, 1, 5, 6, 0] rfl (hk_92 x7 (wr_i (x6 + 1)) o_x7 (ok_wr _) h)
set_option maxHeartbeats 4000000 in
set_option maxRecDepth 100000 in
theorem t_X12_none_114 {X : XT_x} {G : GT_g} {z : Int} (C : Cx_ (K_X12_none) X G) (hR : Rx_ X G (some .int)) (M : Mem_m) (x0 : Nat) (x1 : Int) (x2 : Int) (x3 : Int) (x4 : Int) (x5 : Int) (x6 : Int) (s0 : Int) (s1 : Int) (o_x1 : ok_i x1) (o_x2 : ok_i x2) (o_x3 : ok_i x3) (o_x4 : ok_i x4) (o_x5 : ok_i x5) (o_x6 : ok_i x6) (o_s0 : ok_i s0) (o_s1 : ok_i s1) (k_11 : Int → Option Int) (hk_11 : ∀ (x2 : Int) (o_x2 : ok_i x2), k_11 x2 = some z → V_ (K_X12_none) X G (Fq_ X G (Qi_ G M z)) M 11 [(0, .ref (G.1 + x0)), (1, iv_i x1), (2, iv_i x2)] []) (k_22 : Int → Int → Option Int) (hk_22 : ∀ (x3 : Int) (x4 : Int) (o_x3 : ok_i x3) (o_x4 : ok_i x4), k_22 x3 x4 = some z → V_ (K_X12_none) X G (Fq_ X G (Qi_ G M z)) M 22 [(0, .ref (G.1 + x0)), (1, iv_i x1), (2, iv_i x2), (3, iv_i x3), (4, iv_i x4)] []) (k_51 : Int → Int → Option Int) (hk_51 : ∀ (x3 : Int) (x5 : Int) (o_x3 : ok_i x3) (o_x5 : ok_i x5), k_51 x3 x5 = some z → V_ (K_X12_none) X G (Fq_ X G (Qi_ G M z)) M 51 [(0, .ref (G.1 + x0)), (1, iv_i x1), (2, iv_i x2), (3, iv_i x3), (4, iv_i x4), (5, iv_i x5)] []) (k_92 : Int → Int → Option Int) (hk_92 : ∀ (x3 : Int) (x6 : Int) (o_x3 : ok_i x3) (o_x6 : ok_i x6), k_92 x3 x6 = some z → V_ (K_X12_none) X G (Fq_ X G (Qi_ G M z)) M 92 [(0, .ref (G.1 + x0)), (1, iv_i x1), (2, iv_i x2), (3, iv_i x3), (4, iv_i x4), (5, iv_i x5), (6, iv_i x6)] []) (h : f_X12_none_114 G.2.2.2 k_11 k_22 k_51 k_92 M x0 x1 x2 x3 x4 x5 x6 s0 s1 = some z) : V_ (K_X12_none) X G (Fq_ X G (Qi_ G M z)) M 114 [(0, .ref (G.1 + x0)), (1, iv_i x1), (2, iv_i x2), (3, iv_i x3), (4, iv_i x4), (5, iv_i x5), (6, iv_i x6)] [iv_i s0, iv_i s1] := by
  unfold f_X12_none_114 at h
  refine V_icmp_ge (tgt := 191) C d_X12_none_114 (by decide) o_s1 o_s0 h (fun h => ?_) (fun h => ?_)
  · skip
    refine V_iconst C d_X12_none_117 ?_
    refine V_iload (j := 4) C d_X12_none_118 rfl ?_
    refine V_ishl C d_X12_none_120 ?_
    refine V_iconst C d_X12_none_121 ?_
    refine V_iload (j := 5) C d_X12_none_122 rfl ?_
    refine V_ishl C d_X12_none_124 ?_
    refine V_ior C d_X12_none_125 ?_
    refine V_iconst C d_X12_none_126 ?_
    refine V_iload (j := 6) C d_X12_none_127 rfl ?_
    refine V_ishl C d_X12_none_129 ?_
    refine V_ior C d_X12_none_130 ?_
    refine V_istore (lv' := [(7, iv_i (or_i (or_i (sl_i 1 x4) (sl_i 1 x5)) (sl_i 1 x6))), (0, .ref (G.1 + x0)), (1, iv_i x1), (2, iv_i x2), (3, iv_i x3), (4, iv_i x4), (5, iv_i x5), (6, iv_i x6)]) C d_X12_none_131 (by decide) rfl ?_
    refine V_aload_n (j := 1) C d_X12_none_133 rfl rfl ?_
    refine V_iload (j := 5) C d_X12_none_134 rfl ?_
    refine V_iload_n (j := 2) C d_X12_none_136 rfl rfl ?_
    refine V_callVri (K' := K_X12_isOf) (a := x0) (ci := 12) (av := [iv_i x4, iv_i x1]) (rest := []) yi_X12_isOf (by decide) rfl C (yk_X12_isOf) l1_X12_230 (by decide) d_X12_none_137 (fun v hv => ct_X12_isOf x0 x4 x1 o_x4 o_x1 hv) rfl rfl (Nat.le_of_ble_eq_true rfl) h (fun v1 o1 h => ?_)
    refine V_if_eq (tgt := 185) C d_X12_none_140 (by decide) o1 h (fun h => ?_) (fun h => ?_)
    · skip
      refine V_iinc (j := 7) (lv' := [(6, iv_i (wr_i (x6 + 1))), (7, iv_i (or_i (or_i (sl_i 1 x4) (sl_i 1 x5)) (sl_i 1 x6))), (0, .ref (G.1 + x0)), (1, iv_i x1), (2, iv_i x2), (3, iv_i x3), (4, iv_i x4), (5, iv_i x5)]) C d_X12_none_185 rfl (by decide) rfl ?_
      refine V_goto (tgt := 92) C d_X12_none_188 (by decide) ?_
      refine V_lv [2, 3, 4, 5, 6, 7, 0] rfl (hk_92 x3 (wr_i (x6 + 1)) o_x3 (ok_wr _) h)
    · skip
      refine V_aload_n (j := 1) C d_X12_none_143 rfl rfl ?_
      refine V_iload (j := 6) C d_X12_none_144 rfl ?_
      refine V_iload_n (j := 2) C d_X12_none_146 rfl rfl ?_
      refine V_callVri (K' := K_X12_isOf) (a := x0) (ci := 12) (av := [iv_i x5, iv_i x1]) (rest := []) yi_X12_isOf (by decide) rfl C (yk_X12_isOf) l1_X12_230 (by decide) d_X12_none_147 (fun v hv => ct_X12_isOf x0 x5 x1 o_x5 o_x1 hv) rfl rfl (Nat.le_of_ble_eq_true rfl) h (fun v2 o2 h => ?_)
      refine V_if_eq (tgt := 185) C d_X12_none_150 (by decide) o2 h (fun h => ?_) (fun h => ?_)
      · skip
        refine V_iinc (j := 7) (lv' := [(6, iv_i (wr_i (x6 + 1))), (7, iv_i (or_i (or_i (sl_i 1 x4) (sl_i 1 x5)) (sl_i 1 x6))), (0, .ref (G.1 + x0)), (1, iv_i x1), (2, iv_i x2), (3, iv_i x3), (4, iv_i x4), (5, iv_i x5)]) C d_X12_none_185 rfl (by decide) rfl ?_
        refine V_goto (tgt := 92) C d_X12_none_188 (by decide) ?_
        refine V_lv [2, 3, 4, 5, 6, 7, 0] rfl (hk_92 x3 (wr_i (x6 + 1)) o_x3 (ok_wr _) h)
      · skip
        refine V_aload_n (j := 1) C d_X12_none_153 rfl rfl ?_
        refine V_iload (j := 7) C d_X12_none_154 rfl ?_
        refine V_iload_n (j := 2) C d_X12_none_156 rfl rfl ?_
        refine V_callVri (K' := K_X12_isOf) (a := x0) (ci := 12) (av := [iv_i x6, iv_i x1]) (rest := []) yi_X12_isOf (by decide) rfl C (yk_X12_isOf) l1_X12_230 (by decide) d_X12_none_157 (fun v hv => ct_X12_isOf x0 x6 x1 o_x6 o_x1 hv) rfl rfl (Nat.le_of_ble_eq_true rfl) h (fun v3 o3 h => ?_)
        refine V_if_eq (tgt := 185) C d_X12_none_160 (by decide) o3 h (fun h => ?_) (fun h => ?_)
        · skip
          refine V_iinc (j := 7) (lv' := [(6, iv_i (wr_i (x6 + 1))), (7, iv_i (or_i (or_i (sl_i 1 x4) (sl_i 1 x5)) (sl_i 1 x6))), (0, .ref (G.1 + x0)), (1, iv_i x1), (2, iv_i x2), (3, iv_i x3), (4, iv_i x4), (5, iv_i x5)]) C d_X12_none_185 rfl (by decide) rfl ?_
          refine V_goto (tgt := 92) C d_X12_none_188 (by decide) ?_
          refine V_lv [2, 3, 4, 5, 6, 7, 0] rfl (hk_92 x3 (wr_i (x6 + 1)) o_x3 (ok_wr _) h)
        · skip
          refine V_iload_n (j := 4) C d_X12_none_163 rfl rfl ?_
          refine V_if_lt (tgt := 173) C d_X12_none_164 (by decide) o_x3 h (fun h => ?_) (fun h => ?_)
          · skip
            refine V_lv [1, 2, 3, 4, 5, 6, 7, 0] rfl (t_X12_none_173 C hR M x0 x1 x2 x3 x4 x5 x6 (or_i (or_i (sl_i 1 x4) (sl_i 1 x5)) (sl_i 1 x6)) o_x1 o_x2 o_x3 o_x4 o_x5 o_x6 (ok_I _) k_11 hk_11 k_22 hk_22 k_51 hk_51 k_92 hk_92 h)
          · skip
            refine V_iload (j := 0) C d_X12_none_167 rfl ?_
            refine V_iload_n (j := 4) C d_X12_none_169 rfl rfl ?_
            refine V_icmp_ge (tgt := 185) C d_X12_none_170 (by decide) (ok_I _) o_x3 h (fun h => ?_) (fun h => ?_)
            · skip
              refine V_lv [1, 2, 3, 4, 5, 6, 7, 0] rfl (t_X12_none_173 C hR M x0 x1 x2 x3 x4 x5 x6 (or_i (or_i (sl_i 1 x4) (sl_i 1 x5)) (sl_i 1 x6)) o_x1 o_x2 o_x3 o_x4 o_x5 o_x6 (ok_I _) k_11 hk_11 k_22 hk_22 k_51 hk_51 k_92 hk_92 h)
            · skip
              refine V_iinc (j := 7) (lv' := [(6, iv_i (wr_i (x6 + 1))), (7, iv_i (or_i (or_i (sl_i 1 x4) (sl_i 1 x5)) (sl_i 1 x6))), (0, .ref (G.1 + x0)), (1, iv_i x1), (2, iv_i x2), (3, iv_i x3), (4, iv_i x4), (5, iv_i x5)]) C d_X12_none_185 rfl (by decide) rfl ?_
              refine V_goto (tgt := 92) C d_X12_none_188 (by decide) ?_
              refine V_lv [2, 3, 4, 5, 6, 7, 0] rfl (hk_92 x3 (wr_i (x6 + 1)) o_x3 (ok_wr _) h)
  · skip
    refine V_iinc (j := 5) (lv' := [(5, iv_i (wr_i (x5 + 1))), (0, .ref (G.1 + x0)), (1, iv_i x1), (2, iv_i x2), (3, iv_i x3), (4, iv_i x4), (6, iv_i x6)]) C d_X12_none_191 rfl (by decide) rfl ?_
    refine V_goto (tgt := 51) C d_X12_none_194 (by decide) ?_
    refine V_lv [1, 2, 3, 4, 5, 0] rfl (hk_51 x3 (wr_i (x5 + 1)) o_x3 (ok_wr _) h)
set_option maxHeartbeats 4000000 in
set_option maxRecDepth 100000 in
theorem t_X12_none_92 {X : XT_x} {G : GT_g} {z : Int} (C : Cx_ (K_X12_none) X G) (hR : Rx_ X G (some .int)) (M : Mem_m) (x0 : Nat) (x1 : Int) (x2 : Int) (x4 : Int) (x5 : Int) (o_x1 : ok_i x1) (o_x2 : ok_i x2) (o_x4 : ok_i x4) (o_x5 : ok_i x5) (k_11 : Int → Option Int) (hk_11 : ∀ (x2 : Int) (o_x2 : ok_i x2), k_11 x2 = some z → V_ (K_X12_none) X G (Fq_ X G (Qi_ G M z)) M 11 [(0, .ref (G.1 + x0)), (1, iv_i x1), (2, iv_i x2)] []) (k_22 : Int → Int → Option Int) (hk_22 : ∀ (x3 : Int) (x4 : Int) (o_x3 : ok_i x3) (o_x4 : ok_i x4), k_22 x3 x4 = some z → V_ (K_X12_none) X G (Fq_ X G (Qi_ G M z)) M 22 [(0, .ref (G.1 + x0)), (1, iv_i x1), (2, iv_i x2), (3, iv_i x3), (4, iv_i x4)] []) (k_51 : Int → Int → Option Int) (hk_51 : ∀ (x3 : Int) (x5 : Int) (o_x3 : ok_i x3) (o_x5 : ok_i x5), k_51 x3 x5 = some z → V_ (K_X12_none) X G (Fq_ X G (Qi_ G M z)) M 51 [(0, .ref (G.1 + x0)), (1, iv_i x1), (2, iv_i x2), (3, iv_i x3), (4, iv_i x4), (5, iv_i x5)] []) : ∀ (n : Nat) (x3 : Int) (x6 : Int) (o_x3 : ok_i x3) (o_x6 : ok_i x6), f_X12_none_92 G.2.2.2 k_11 k_22 k_51 M x0 x1 x2 x4 x5 n x3 x6 = some z → V_ (K_X12_none) X G (Fq_ X G (Qi_ G M z)) M 92 [(0, .ref (G.1 + x0)), (1, iv_i x1), (2, iv_i x2), (3, iv_i x3), (4, iv_i x4), (5, iv_i x5), (6, iv_i x6)] [] := by
  intro n
  induction n with
  | zero => intro x3 x6 o_x3 o_x6 h; exact absurd h (by simp [f_X12_none_92])
  | succ n ih =>
    intro x3 x6 o_x3 o_x6 h
    unfold f_X12_none_92 at h
    refine V_iload (j := 6) C d_X12_none_92 rfl ?_
    refine V_iload_n (j := 2) C d_X12_none_94 rfl rfl ?_
    refine V_iconst C d_X12_none_95 ?_
    refine V_icmp_le (tgt := 110) C d_X12_none_96 (by decide) o_x2 (okc rfl) h (fun h => ?_) (fun h => ?_)
    · skip
      refine V_iload (j := 5) C d_X12_none_110 rfl ?_
      refine V_iconst C d_X12_none_112 ?_
      refine V_iadd C d_X12_none_113 ?_
      refine V_lv [0, 1, 2, 3, 4, 5, 6] rfl (t_X12_none_114 C hR M x0 x1 x2 x3 x4 x5 x6 (wr_i (x5 + 1)) x6 o_x1 o_x2 o_x3 o_x4 o_x5 o_x6 (ok_wr _) o_x6 k_11 hk_11 k_22 hk_22 k_51 hk_51 (fun x3 x6 => f_X12_none_92 G.2.2.2 k_11 k_22 k_51 M x0 x1 x2 x4 x5 n x3 x6) (fun x3 x6 o_x3 o_x6 h9 => ih x3 x6 o_x3 o_x6 h9) h)
    · skip
      refine V_aload_n (j := 0) C d_X12_none_99 rfl rfl ?_
      refine V_getR C ck_12 fw_X12_9 d_X12_none_100 h (fun v1 h => ?_)
      refine V_sipush (v := 1065) C d_X12_none_103 rfl ?_
      refine V_iald C d_X12_none_106 (okc rfl) h (fun v2 o2 h => ?_)
      refine V_goto (tgt := 114) C d_X12_none_107 (by decide) ?_
      refine V_lv [0, 1, 2, 3, 4, 5, 6] rfl (t_X12_none_114 C hR M x0 x1 x2 x3 x4 x5 x6 v2 x6 o_x1 o_x2 o_x3 o_x4 o_x5 o_x6 o2 o_x6 k_11 hk_11 k_22 hk_22 k_51 hk_51 (fun x3 x6 => f_X12_none_92 G.2.2.2 k_11 k_22 k_51 M x0 x1 x2 x4 x5 n x3 x6) (fun x3 x6 o_x3 o_x6 h9 => ih x3 x6 o_x3 o_x6 h9) h)
set_option maxHeartbeats 4000000 in
set_option maxRecDepth 100000 in
theorem t_X12_none_73 {X : XT_x} {G : GT_g} {z : Int} (C : Cx_ (K_X12_none) X G) (hR : Rx_ X G (some .int)) (M : Mem_m) (x0 : Nat) (x1 : Int) (x2 : Int) (x3 : Int) (x4 : Int) (x5 : Int) (s0 : Int) (s1 : Int) (o_x1 : ok_i x1) (o_x2 : ok_i x2) (o_x3 : ok_i x3) (o_x4 : ok_i x4) (o_x5 : ok_i x5) (o_s0 : ok_i s0) (o_s1 : ok_i s1) (k_11 : Int → Option Int) (hk_11 : ∀ (x2 : Int) (o_x2 : ok_i x2), k_11 x2 = some z → V_ (K_X12_none) X G (Fq_ X G (Qi_ G M z)) M 11 [(0, .ref (G.1 + x0)), (1, iv_i x1), (2, iv_i x2)] []) (k_22 : Int → Int → Option Int) (hk_22 : ∀ (x3 : Int) (x4 : Int) (o_x3 : ok_i x3) (o_x4 : ok_i x4), k_22 x3 x4 = some z → V_ (K_X12_none) X G (Fq_ X G (Qi_ G M z)) M 22 [(0, .ref (G.1 + x0)), (1, iv_i x1), (2, iv_i x2), (3, iv_i x3), (4, iv_i x4)] []) (k_51 : Int → Int → Option Int) (hk_51 : ∀ (x3 : Int) (x5 : Int) (o_x3 : ok_i x3) (o_x5 : ok_i x5), k_51 x3 x5 = some z → V_ (K_X12_none) X G (Fq_ X G (Qi_ G M z)) M 51 [(0, .ref (G.1 + x0)), (1, iv_i x1), (2, iv_i x2), (3, iv_i x3), (4, iv_i x4), (5, iv_i x5)] []) (h : f_X12_none_73 G.2.2.2 k_11 k_22 k_51 M x0 x1 x2 x3 x4 x5 s0 s1 = some z) : V_ (K_X12_none) X G (Fq_ X G (Qi_ G M z)) M 73 [(0, .ref (G.1 + x0)), (1, iv_i x1), (2, iv_i x2), (3, iv_i x3), (4, iv_i x4), (5, iv_i x5)] [iv_i s0, iv_i s1] := by
  unfold f_X12_none_73 at h
  refine V_icmp_ge (tgt := 197) C d_X12_none_73 (by decide) o_s1 o_s0 h (fun h => ?_) (fun h => ?_)
  · skip
    refine V_iload_n (j := 2) C d_X12_none_76 rfl rfl ?_
    refine V_iconst C d_X12_none_77 ?_
    refine V_icmp_le (tgt := 88) C d_X12_none_78 (by decide) o_x2 (okc rfl) h (fun h => ?_) (fun h => ?_)
    · skip
      refine V_iload (j := 5) C d_X12_none_88 rfl ?_
      refine V_istore (lv' := [(6, iv_i x5), (0, .ref (G.1 + x0)), (1, iv_i x1), (2, iv_i x2), (3, iv_i x3), (4, iv_i x4), (5, iv_i x5)]) C d_X12_none_90 (by decide) rfl ?_
      refine V_lv [1, 2, 3, 4, 5, 6, 0] rfl (t_X12_none_92 C hR M x0 x1 x2 x4 x5 o_x1 o_x2 o_x4 o_x5 k_11 hk_11 k_22 hk_22 k_51 hk_51 FU_ x3 x5 o_x3 o_x5 h)
    · skip
      refine V_iload (j := 5) C d_X12_none_81 rfl ?_
      refine V_iconst C d_X12_none_83 ?_
      refine V_iadd C d_X12_none_84 ?_
      refine V_goto (tgt := 90) C d_X12_none_85 (by decide) ?_
      refine V_istore (lv' := [(6, iv_i (wr_i (x5 + 1))), (0, .ref (G.1 + x0)), (1, iv_i x1), (2, iv_i x2), (3, iv_i x3), (4, iv_i x4), (5, iv_i x5)]) C d_X12_none_90 (by decide) rfl ?_
      refine V_lv [1, 2, 3, 4, 5, 6, 0] rfl (t_X12_none_92 C hR M x0 x1 x2 x4 x5 o_x1 o_x2 o_x4 o_x5 k_11 hk_11 k_22 hk_22 k_51 hk_51 FU_ x3 (wr_i (x5 + 1)) o_x3 (ok_wr _) h)
  · skip
    refine V_iinc (j := 4) (lv' := [(4, iv_i (wr_i (x4 + 1))), (0, .ref (G.1 + x0)), (1, iv_i x1), (2, iv_i x2), (3, iv_i x3), (5, iv_i x5)]) C d_X12_none_197 rfl (by decide) rfl ?_
    refine V_goto (tgt := 22) C d_X12_none_200 (by decide) ?_
    refine V_lv [1, 2, 3, 4, 0] rfl (hk_22 x3 (wr_i (x4 + 1)) o_x3 (ok_wr _) h)
set_option maxHeartbeats 4000000 in
set_option maxRecDepth 100000 in
theorem t_X12_none_51 {X : XT_x} {G : GT_g} {z : Int} (C : Cx_ (K_X12_none) X G) (hR : Rx_ X G (some .int)) (M : Mem_m) (x0 : Nat) (x1 : Int) (x2 : Int) (x4 : Int) (o_x1 : ok_i x1) (o_x2 : ok_i x2) (o_x4 : ok_i x4) (k_11 : Int → Option Int) (hk_11 : ∀ (x2 : Int) (o_x2 : ok_i x2), k_11 x2 = some z → V_ (K_X12_none) X G (Fq_ X G (Qi_ G M z)) M 11 [(0, .ref (G.1 + x0)), (1, iv_i x1), (2, iv_i x2)] []) (k_22 : Int → Int → Option Int) (hk_22 : ∀ (x3 : Int) (x4 : Int) (o_x3 : ok_i x3) (o_x4 : ok_i x4), k_22 x3 x4 = some z → V_ (K_X12_none) X G (Fq_ X G (Qi_ G M z)) M 22 [(0, .ref (G.1 + x0)), (1, iv_i x1), (2, iv_i x2), (3, iv_i x3), (4, iv_i x4)] []) : ∀ (n : Nat) (x3 : Int) (x5 : Int) (o_x3 : ok_i x3) (o_x5 : ok_i x5), f_X12_none_51 G.2.2.2 k_11 k_22 M x0 x1 x2 x4 n x3 x5 = some z → V_ (K_X12_none) X G (Fq_ X G (Qi_ G M z)) M 51 [(0, .ref (G.1 + x0)), (1, iv_i x1), (2, iv_i x2), (3, iv_i x3), (4, iv_i x4), (5, iv_i x5)] [] := by
  intro n
  induction n with
  | zero => intro x3 x5 o_x3 o_x5 h; exact absurd h (by simp [f_X12_none_51])
  | succ n ih =>
    intro x3 x5 o_x3 o_x5 h
    unfold f_X12_none_51 at h
    refine V_iload (j := 5) C d_X12_none_51 rfl ?_
    refine V_iload_n (j := 2) C d_X12_none_53 rfl rfl ?_
    refine V_iconst C d_X12_none_54 ?_
    refine V_icmp_le (tgt := 69) C d_X12_none_55 (by decide) o_x2 (okc rfl) h (fun h => ?_) (fun h => ?_)
    · skip
      refine V_iload (j := 4) C d_X12_none_69 rfl ?_
      refine V_iconst C d_X12_none_71 ?_
      refine V_iadd C d_X12_none_72 ?_
      refine V_lv [0, 1, 2, 3, 4, 5] rfl (t_X12_none_73 C hR M x0 x1 x2 x3 x4 x5 (wr_i (x4 + 1)) x5 o_x1 o_x2 o_x3 o_x4 o_x5 (ok_wr _) o_x5 k_11 hk_11 k_22 hk_22 (fun x3 x5 => f_X12_none_51 G.2.2.2 k_11 k_22 M x0 x1 x2 x4 n x3 x5) (fun x3 x5 o_x3 o_x5 h9 => ih x3 x5 o_x3 o_x5 h9) h)
    · skip
      refine V_aload_n (j := 0) C d_X12_none_58 rfl rfl ?_
      refine V_getR C ck_12 fw_X12_9 d_X12_none_59 h (fun v1 h => ?_)
      refine V_sipush (v := 1065) C d_X12_none_62 rfl ?_
      refine V_iald C d_X12_none_65 (okc rfl) h (fun v2 o2 h => ?_)
      refine V_goto (tgt := 73) C d_X12_none_66 (by decide) ?_
      refine V_lv [0, 1, 2, 3, 4, 5] rfl (t_X12_none_73 C hR M x0 x1 x2 x3 x4 x5 v2 x5 o_x1 o_x2 o_x3 o_x4 o_x5 o2 o_x5 k_11 hk_11 k_22 hk_22 (fun x3 x5 => f_X12_none_51 G.2.2.2 k_11 k_22 M x0 x1 x2 x4 n x3 x5) (fun x3 x5 o_x3 o_x5 h9 => ih x3 x5 o_x3 o_x5 h9) h)
set_option maxHeartbeats 4000000 in
set_option maxRecDepth 100000 in
theorem t_X12_none_22 {X : XT_x} {G : GT_g} {z : Int} (C : Cx_ (K_X12_none) X G) (hR : Rx_ X G (some .int)) (M : Mem_m) (x0 : Nat) (x1 : Int) (x2 : Int) (o_x1 : ok_i x1) (o_x2 : ok_i x2) (k_11 : Int → Option Int) (hk_11 : ∀ (x2 : Int) (o_x2 : ok_i x2), k_11 x2 = some z → V_ (K_X12_none) X G (Fq_ X G (Qi_ G M z)) M 11 [(0, .ref (G.1 + x0)), (1, iv_i x1), (2, iv_i x2)] []) : ∀ (n : Nat) (x3 : Int) (x4 : Int) (o_x3 : ok_i x3) (o_x4 : ok_i x4), f_X12_none_22 G.2.2.2 k_11 M x0 x1 x2 n x3 x4 = some z → V_ (K_X12_none) X G (Fq_ X G (Qi_ G M z)) M 22 [(0, .ref (G.1 + x0)), (1, iv_i x1), (2, iv_i x2), (3, iv_i x3), (4, iv_i x4)] [] := by
  intro n
  induction n with
  | zero => intro x3 x4 o_x3 o_x4 h; exact absurd h (by simp [f_X12_none_22])
  | succ n ih =>
    intro x3 x4 o_x3 o_x4 h
    unfold f_X12_none_22 at h
    refine V_iload (j := 4) C d_X12_none_22 rfl ?_
    refine V_aload_n (j := 0) C d_X12_none_24 rfl rfl ?_
    refine V_getR C ck_12 fw_X12_9 d_X12_none_25 h (fun v1 h => ?_)
    refine V_sipush (v := 1065) C d_X12_none_28 rfl ?_
    refine V_iald C d_X12_none_31 (okc rfl) h (fun v2 o2 h => ?_)
    refine V_icmp_ge (tgt := 203) C d_X12_none_32 (by decide) o_x4 o2 h (fun h => ?_) (fun h => ?_)
    · skip
      refine V_iload_n (j := 2) C d_X12_none_35 rfl rfl ?_
      refine V_iconst C d_X12_none_36 ?_
      refine V_icmp_le (tgt := 47) C d_X12_none_37 (by decide) o_x2 (okc rfl) h (fun h => ?_) (fun h => ?_)
      · skip
        refine V_iload (j := 4) C d_X12_none_47 rfl ?_
        refine V_istore (lv' := [(5, iv_i x4), (0, .ref (G.1 + x0)), (1, iv_i x1), (2, iv_i x2), (3, iv_i x3), (4, iv_i x4)]) C d_X12_none_49 (by decide) rfl ?_
        refine V_lv [1, 2, 3, 4, 5, 0] rfl (t_X12_none_51 C hR M x0 x1 x2 x4 o_x1 o_x2 o_x4 k_11 hk_11 (fun x3 x4 => f_X12_none_22 G.2.2.2 k_11 M x0 x1 x2 n x3 x4) (fun x3 x4 o_x3 o_x4 h9 => ih x3 x4 o_x3 o_x4 h9) FU_ x3 x4 o_x3 o_x4 h)
      · skip
        refine V_iload (j := 4) C d_X12_none_40 rfl ?_
        refine V_iconst C d_X12_none_42 ?_
        refine V_iadd C d_X12_none_43 ?_
        refine V_goto (tgt := 49) C d_X12_none_44 (by decide) ?_
        refine V_istore (lv' := [(5, iv_i (wr_i (x4 + 1))), (0, .ref (G.1 + x0)), (1, iv_i x1), (2, iv_i x2), (3, iv_i x3), (4, iv_i x4)]) C d_X12_none_49 (by decide) rfl ?_
        refine V_lv [1, 2, 3, 4, 5, 0] rfl (t_X12_none_51 C hR M x0 x1 x2 x4 o_x1 o_x2 o_x4 k_11 hk_11 (fun x3 x4 => f_X12_none_22 G.2.2.2 k_11 M x0 x1 x2 n x3 x4) (fun x3 x4 o_x3 o_x4 h9 => ih x3 x4 o_x3 o_x4 h9) FU_ x3 (wr_i (x4 + 1)) o_x3 (ok_wr _) h)
    · skip
      refine V_iload_n (j := 3) C d_X12_none_203 rfl rfl ?_
      refine V_if_lt (tgt := 209) C d_X12_none_204 (by decide) o_x3 h (fun h => ?_) (fun h => ?_)
      · skip
        refine V_iinc (j := 2) (lv' := [(2, iv_i (wr_i (x2 + 1))), (0, .ref (G.1 + x0)), (1, iv_i x1), (3, iv_i x3), (4, iv_i x4)]) C d_X12_none_209 rfl (by decide) rfl ?_
        refine V_goto (tgt := 11) C d_X12_none_212 (by decide) ?_
        refine V_lv [1, 2, 0] rfl (hk_11 (wr_i (x2 + 1)) (ok_wr _) h)
      · skip
        refine V_iload_n (j := 3) C d_X12_none_207 rfl rfl ?_
        exact V_iret_r C hR d_X12_none_208 o_x3 h
set_option maxHeartbeats 4000000 in
set_option maxRecDepth 100000 in
theorem t_X12_none_11 {X : XT_x} {G : GT_g} {z : Int} (C : Cx_ (K_X12_none) X G) (hR : Rx_ X G (some .int)) (M : Mem_m) (x0 : Nat) (x1 : Int) (o_x1 : ok_i x1) : ∀ (n : Nat) (x2 : Int) (o_x2 : ok_i x2), f_X12_none_11 G.2.2.2 M x0 x1 n x2 = some z → V_ (K_X12_none) X G (Fq_ X G (Qi_ G M z)) M 11 [(0, .ref (G.1 + x0)), (1, iv_i x1), (2, iv_i x2)] [] := by
  intro n
  induction n with
  | zero => intro x2 o_x2 h; exact absurd h (by simp [f_X12_none_11])
  | succ n ih =>
    intro x2 o_x2 h
    unfold f_X12_none_11 at h
    refine V_iload_n (j := 2) C d_X12_none_11 rfl rfl ?_
    refine V_iconst C d_X12_none_12 ?_
    refine V_icmp_ge (tgt := 215) C d_X12_none_13 (by decide) o_x2 (okc rfl) h (fun h => ?_) (fun h => ?_)
    · skip
      refine V_bipush (v := (-4)) C d_X12_none_16 rfl ?_
      refine V_istore_n (lv' := [(3, iv_i (-4)), (0, .ref (G.1 + x0)), (1, iv_i x1), (2, iv_i x2)]) C d_X12_none_18 rfl (by decide) rfl ?_
      refine V_iconst C d_X12_none_19 ?_
      refine V_istore (lv' := [(4, iv_i 0), (3, iv_i (-4)), (0, .ref (G.1 + x0)), (1, iv_i x1), (2, iv_i x2)]) C d_X12_none_20 (by decide) rfl ?_
      refine V_lv [2, 3, 4, 1, 0] rfl (t_X12_none_22 C hR M x0 x1 x2 o_x1 o_x2 (fun x2 => f_X12_none_11 G.2.2.2 M x0 x1 n x2) (fun x2 o_x2 h9 => ih x2 o_x2 h9) FU_ (-4) 0 (okc rfl) (okc rfl) h)
    · skip
      refine V_bipush (v := (-4)) C d_X12_none_215 rfl ?_
      exact V_iret_r C hR d_X12_none_217 (okc rfl) h
set_option maxHeartbeats 4000000 in
set_option maxRecDepth 100000 in
theorem t_X12_none {X : XT_x} {G : GT_g} {M : Mem_m} {z : Int} (C : Cx_ (K_X12_none) X G) (hR : Rx_ X G (some .int)) (x0 : Nat) (x1 : Int) (o_x1 : ok_i x1) (h : f_X12_none G.2.2.2 M x0 x1 = some z) : V_ (K_X12_none) X G (Fq_ X G (Qi_ G M z)) M 0 [(0, .ref (G.1 + x0)), (1, iv_i x1)] [] := by
  unfold f_X12_none at h
  refine V_iload_n (j := 1) C d_X12_none_0 rfl rfl ?_
  refine V_callSri (K' := K_X12_isVillage) (av := [iv_i x1]) (rest := []) ys_X12_isVillage C (yk_X12_isVillage) l1_X12_238 (by decide) d_X12_none_1 (fun v hv => ct_X12_isVillage x1 o_x1 hv) rfl rfl (Nat.le_of_ble_eq_true rfl) h (fun v1 o1 h => ?_)
  refine V_if_ne (tgt := 9) C d_X12_none_4 (by decide) o1 h (fun h => ?_) (fun h => ?_)
  · skip
    refine V_iconst C d_X12_none_7 ?_
    exact V_iret_r C hR d_X12_none_8 (okc rfl) h
  · skip
    refine V_iconst C d_X12_none_9 ?_
    refine V_istore_n (lv' := [(2, iv_i 1), (0, .ref (G.1 + x0)), (1, iv_i x1)]) C d_X12_none_10 rfl (by decide) rfl ?_
    refine V_lv [1, 2, 0] rfl (t_X12_none_11 C hR M x0 x1 o_x1 FU_ 1 (okc rfl) h)
set_option maxHeartbeats 4000000 in
set_option maxRecDepth 100000 in
theorem ct_X12_none {l : Launch} {G : GT_g} {M : Mem_m} (x0 : Nat) (x1 : Int) (o_x1 : ok_i x1) {z : Int} (h : f_X12_none G.2.2.2 M x0 x1 = some z) : MI_ l yX12_none K_X12_none (some .int) G M [.ref (G.1 + x0), iv_i x1] M z :=
  met_of (by decide +kernel) rfl (Nat.le_of_ble_eq_true rfl) (fun X hl C hR => by subst hl; exact t_X12_none C hR x0 x1 o_x1 h)
theorem d_X12_bits_0 : decode cX12_bits 0 = .ok (.iconst 0, 1) := by decide +kernel
theorem d_X12_bits_1 : decode cX12_bits 1 = .ok (.istore_n 1, 1) := by decide +kernel
theorem d_X12_bits_2 : decode cX12_bits 2 = .ok (.iload_n 0, 1) := by decide +kernel
theorem d_X12_bits_3 : decode cX12_bits 3 = .ok (.istore_n 2, 1) := by decide +kernel
theorem d_X12_bits_4 : decode cX12_bits 4 = .ok (.iload_n 2, 1) := by decide +kernel
theorem d_X12_bits_5 : decode cX12_bits 5 = .ok (.ifCond .le 16, 3) := by decide +kernel
theorem d_X12_bits_8 : decode cX12_bits 8 = .ok (.iload_n 1, 1) := by decide +kernel
theorem d_X12_bits_9 : decode cX12_bits 9 = .ok (.iload_n 2, 1) := by decide +kernel
theorem d_X12_bits_10 : decode cX12_bits 10 = .ok (.iconst 1, 1) := by decide +kernel
theorem d_X12_bits_11 : decode cX12_bits 11 = .ok (.iand, 1) := by decide +kernel
theorem d_X12_bits_12 : decode cX12_bits 12 = .ok (.iadd, 1) := by decide +kernel
theorem d_X12_bits_13 : decode cX12_bits 13 = .ok (.istore_n 1, 1) := by decide +kernel
theorem d_X12_bits_14 : decode cX12_bits 14 = .ok (.iload_n 2, 1) := by decide +kernel
theorem d_X12_bits_15 : decode cX12_bits 15 = .ok (.iconst 1, 1) := by decide +kernel
theorem d_X12_bits_16 : decode cX12_bits 16 = .ok (.ishr, 1) := by decide +kernel
theorem d_X12_bits_17 : decode cX12_bits 17 = .ok (.istore_n 2, 1) := by decide +kernel
theorem d_X12_bits_18 : decode cX12_bits 18 = .ok (.goto (-14), 3) := by decide +kernel
theorem d_X12_bits_21 : decode cX12_bits 21 = .ok (.iload_n 1, 1) := by decide +kernel
theorem d_X12_bits_22 : decode cX12_bits 22 = .ok (.ireturn, 1) := by decide +kernel
set_option maxHeartbeats 4000000 in
set_option maxRecDepth 100000 in
theorem t_X12_bits_4 {X : XT_x} {G : GT_g} {z : Int} (C : Cx_ (K_X12_bits) X G) (hR : Rx_ X G (some .int)) (M : Mem_m) : ∀ (n : Nat) (x1 : Int) (x2 : Int) (o_x1 : ok_i x1) (o_x2 : ok_i x2), f_X12_bits_4 G.2.2.2 M n x1 x2 = some z → V_ (K_X12_bits) X G (Fq_ X G (Qi_ G M z)) M 4 [(1, iv_i x1), (2, iv_i x2)] [] := by
  intro n
  induction n with
  | zero => intro x1 x2 o_x1 o_x2 h; exact absurd h (by simp [f_X12_bits_4])
  | succ n ih =>
    intro x1 x2 o_x1 o_x2 h
    unfold f_X12_bits_4 at h
    refine V_iload_n (j := 1) C d_X12_bits_4 rfl rfl ?_
    refine V_if_le (tgt := 21) C d_X12_bits_5 (by decide) o_x2 h (fun h => ?_) (fun h => ?_)
    · skip
      refine V_iload_n (j := 0) C d_X12_bits_21 rfl rfl ?_
      exact V_iret_r C hR d_X12_bits_22 o_x1 h
    · skip
      refine V_iload_n (j := 0) C d_X12_bits_8 rfl rfl ?_
      refine V_iload_n (j := 1) C d_X12_bits_9 rfl rfl ?_
      refine V_iconst C d_X12_bits_10 ?_
      refine V_iand C d_X12_bits_11 ?_
      refine V_iadd C d_X12_bits_12 ?_
      refine V_istore_n (lv' := [(1, iv_i (wr_i (x1 + (an_i x2 1)))), (2, iv_i x2)]) C d_X12_bits_13 rfl (by decide) rfl ?_
      refine V_iload_n (j := 1) C d_X12_bits_14 rfl rfl ?_
      refine V_iconst C d_X12_bits_15 ?_
      refine V_ishr C d_X12_bits_16 ?_
      refine V_istore_n (lv' := [(2, iv_i (sr_i x2 1)), (1, iv_i (wr_i (x1 + (an_i x2 1))))]) C d_X12_bits_17 rfl (by decide) rfl ?_
      refine V_goto (tgt := 4) C d_X12_bits_18 (by decide) ?_
      refine V_lv [1, 0] rfl (ih (wr_i (x1 + (an_i x2 1))) (sr_i x2 1) (ok_wr _) (ok_I _) h)
set_option maxHeartbeats 4000000 in
set_option maxRecDepth 100000 in
theorem t_X12_bits {X : XT_x} {G : GT_g} {M : Mem_m} {z : Int} (C : Cx_ (K_X12_bits) X G) (hR : Rx_ X G (some .int)) (x0 : Int) (o_x0 : ok_i x0) (h : f_X12_bits G.2.2.2 M x0 = some z) : V_ (K_X12_bits) X G (Fq_ X G (Qi_ G M z)) M 0 [(0, iv_i x0)] [] := by
  unfold f_X12_bits at h
  refine V_iconst C d_X12_bits_0 ?_
  refine V_istore_n (lv' := [(1, iv_i 0), (0, iv_i x0)]) C d_X12_bits_1 rfl (by decide) rfl ?_
  refine V_iload_n (j := 1) C d_X12_bits_2 rfl rfl ?_
  refine V_istore_n (lv' := [(2, iv_i x0), (1, iv_i 0), (0, iv_i x0)]) C d_X12_bits_3 rfl (by decide) rfl ?_
  refine V_lv [1, 0] rfl (t_X12_bits_4 C hR M FU_ 0 x0 (okc rfl) o_x0 h)
set_option maxHeartbeats 4000000 in
set_option maxRecDepth 100000 in
theorem ct_X12_bits {l : Launch} {G : GT_g} {M : Mem_m} (x0 : Int) (o_x0 : ok_i x0) {z : Int} (h : f_X12_bits G.2.2.2 M x0 = some z) : MI_ l yX12_bits K_X12_bits (some .int) G M [iv_i x0] M z :=
  met_of (by decide +kernel) rfl (Nat.le_of_ble_eq_true rfl) (fun X hl C hR => by subst hl; exact t_X12_bits C hR x0 o_x0 h)
theorem d_X12_reader_0 : decode cX12_reader 0 = .ok (.iload_n 1, 1) := by decide +kernel
theorem d_X12_reader_1 : decode cX12_reader 1 = .ok (.i2l, 1) := by decide +kernel
theorem d_X12_reader_2 : decode cX12_reader 2 = .ok (.lconst 0, 1) := by decide +kernel
theorem d_X12_reader_3 : decode cX12_reader 3 = .ok (.ldc2_w 263, 3) := by decide +kernel
theorem d_X12_reader_6 : decode cX12_reader 6 = .ok (.invokestatic 69, 3) := by decide +kernel
theorem d_X12_reader_9 : decode cX12_reader 9 = .ok (.ifCond .eq 19, 3) := by decide +kernel
theorem d_X12_reader_12 : decode cX12_reader 12 = .ok (.iload_n 2, 1) := by decide +kernel
theorem d_X12_reader_13 : decode cX12_reader 13 = .ok (.i2l, 1) := by decide +kernel
theorem d_X12_reader_14 : decode cX12_reader 14 = .ok (.lconst 0, 1) := by decide +kernel
theorem d_X12_reader_15 : decode cX12_reader 15 = .ok (.ldc2_w 83, 3) := by decide +kernel
theorem d_X12_reader_18 : decode cX12_reader 18 = .ok (.invokestatic 69, 3) := by decide +kernel
theorem d_X12_reader_21 : decode cX12_reader 21 = .ok (.ifCond .eq 7, 3) := by decide +kernel
theorem d_X12_reader_24 : decode cX12_reader 24 = .ok (.iload_n 3, 1) := by decide +kernel
theorem d_X12_reader_25 : decode cX12_reader 25 = .ok (.ifCond .ge 5, 3) := by decide +kernel
theorem d_X12_reader_28 : decode cX12_reader 28 = .ok (.iconst (-1), 1) := by decide +kernel
theorem d_X12_reader_29 : decode cX12_reader 29 = .ok (.ireturn, 1) := by decide +kernel
theorem d_X12_reader_30 : decode cX12_reader 30 = .ok (.iload_n 3, 1) := by decide +kernel
theorem d_X12_reader_31 : decode cX12_reader 31 = .ok (.istore 4, 2) := by decide +kernel
theorem d_X12_reader_33 : decode cX12_reader 33 = .ok (.iload 4, 2) := by decide +kernel
theorem d_X12_reader_35 : decode cX12_reader 35 = .ok (.aload_n 0, 1) := by decide +kernel
theorem d_X12_reader_36 : decode cX12_reader 36 = .ok (.getfield 9, 3) := by decide +kernel
theorem d_X12_reader_39 : decode cX12_reader 39 = .ok (.sipush 1062, 3) := by decide +kernel
theorem d_X12_reader_42 : decode cX12_reader 42 = .ok (.iaload, 1) := by decide +kernel
theorem d_X12_reader_43 : decode cX12_reader 43 = .ok (.if_icmp .ge 53, 3) := by decide +kernel
theorem d_X12_reader_46 : decode cX12_reader 46 = .ok (.aload_n 0, 1) := by decide +kernel
theorem d_X12_reader_47 : decode cX12_reader 47 = .ok (.iload 4, 2) := by decide +kernel
theorem d_X12_reader_49 : decode cX12_reader 49 = .ok (.invokevirtual 111, 3) := by decide +kernel
theorem d_X12_reader_52 : decode cX12_reader 52 = .ok (.ifCond .ne 6, 3) := by decide +kernel
theorem d_X12_reader_55 : decode cX12_reader 55 = .ok (.goto 35, 3) := by decide +kernel
theorem d_X12_reader_58 : decode cX12_reader 58 = .ok (.aload_n 0, 1) := by decide +kernel
theorem d_X12_reader_59 : decode cX12_reader 59 = .ok (.iload 4, 2) := by decide +kernel
theorem d_X12_reader_61 : decode cX12_reader 61 = .ok (.invokevirtual 156, 3) := by decide +kernel
theorem d_X12_reader_64 : decode cX12_reader 64 = .ok (.istore 5, 2) := by decide +kernel
theorem d_X12_reader_66 : decode cX12_reader 66 = .ok (.iload 5, 2) := by decide +kernel
theorem d_X12_reader_68 : decode cX12_reader 68 = .ok (.ldc_w 265, 3) := by decide +kernel
theorem d_X12_reader_71 : decode cX12_reader 71 = .ok (.if_icmp .ge 19, 3) := by decide +kernel
theorem d_X12_reader_74 : decode cX12_reader 74 = .ok (.iload 5, 2) := by decide +kernel
theorem d_X12_reader_76 : decode cX12_reader 76 = .ok (.iload_n 1, 1) := by decide +kernel
theorem d_X12_reader_77 : decode cX12_reader 77 = .ok (.iconst (-1), 1) := by decide +kernel
theorem d_X12_reader_78 : decode cX12_reader 78 = .ok (.ixor, 1) := by decide +kernel
theorem d_X12_reader_79 : decode cX12_reader 79 = .ok (.iand, 1) := by decide +kernel
theorem d_X12_reader_80 : decode cX12_reader 80 = .ok (.invokestatic 266, 3) := by decide +kernel
theorem d_X12_reader_83 : decode cX12_reader 83 = .ok (.iload_n 2, 1) := by decide +kernel
theorem d_X12_reader_84 : decode cX12_reader 84 = .ok (.if_icmp .gt 6, 3) := by decide +kernel
theorem d_X12_reader_87 : decode cX12_reader 87 = .ok (.iload 4, 2) := by decide +kernel
theorem d_X12_reader_89 : decode cX12_reader 89 = .ok (.ireturn, 1) := by decide +kernel
theorem d_X12_reader_90 : decode cX12_reader 90 = .ok (.iinc 4 1, 3) := by decide +kernel
theorem d_X12_reader_93 : decode cX12_reader 93 = .ok (.goto (-60), 3) := by decide +kernel
theorem d_X12_reader_96 : decode cX12_reader 96 = .ok (.bipush (-4), 2) := by decide +kernel
theorem d_X12_reader_98 : decode cX12_reader 98 = .ok (.ireturn, 1) := by decide +kernel
set_option maxHeartbeats 4000000 in
set_option maxRecDepth 100000 in
theorem t_X12_reader_33 {X : XT_x} {G : GT_g} {z : (Mem_m × Int)} (C : Cx_ (K_X12_reader) X G) (hR : Rx_ X G (some .int)) (x0 : Nat) (x1 : Int) (x2 : Int) (o_x1 : ok_i x1) (o_x2 : ok_i x2) : ∀ (n : Nat) (M : Mem_m) (x4 : Int) (o_x4 : ok_i x4), f_X12_reader_33 G.2.2.2 x0 x1 x2 n M x4 = some z → V_ (K_X12_reader) X G (Fq_ X G (Qi_ G z.1 z.2)) M 33 [(0, .ref (G.1 + x0)), (1, iv_i x1), (2, iv_i x2), (4, iv_i x4)] [] := by
  intro n
  induction n with
  | zero => intro M x4 o_x4 h; exact absurd h (by simp [f_X12_reader_33])
  | succ n ih =>
    intro M x4 o_x4 h
    unfold f_X12_reader_33 at h
    refine V_iload (j := 3) C d_X12_reader_33 rfl ?_
    refine V_aload_n (j := 0) C d_X12_reader_35 rfl rfl ?_
    refine V_getR C ck_12 fw_X12_9 d_X12_reader_36 h (fun v1 h => ?_)
    refine V_sipush (v := 1062) C d_X12_reader_39 rfl ?_
    refine V_iald C d_X12_reader_42 (okc rfl) h (fun v2 o2 h => ?_)
    refine V_icmp_ge (tgt := 96) C d_X12_reader_43 (by decide) o_x4 o2 h (fun h => ?_) (fun h => ?_)
    · skip
      refine V_aload_n (j := 0) C d_X12_reader_46 rfl rfl ?_
      refine V_iload (j := 3) C d_X12_reader_47 rfl ?_
      refine V_callVri (K' := K_X12_counts) (a := x0) (ci := 12) (av := [iv_i x4]) (rest := []) yi_X12_counts (by decide) rfl C (yk_X12_counts) l1_X12_111 (by decide) d_X12_reader_49 (fun v hv => ct_X12_counts x0 x4 o_x4 hv) rfl rfl (Nat.le_of_ble_eq_true rfl) h (fun v3 o3 h => ?_)
      refine V_if_ne (tgt := 58) C d_X12_reader_52 (by decide) o3 h (fun h => ?_) (fun h => ?_)
      · skip
        refine V_goto (tgt := 90) C d_X12_reader_55 (by decide) ?_
        refine V_iinc (j := 3) (lv' := [(4, iv_i (wr_i (x4 + 1))), (0, .ref (G.1 + x0)), (1, iv_i x1), (2, iv_i x2)]) C d_X12_reader_90 rfl (by decide) rfl ?_
        refine V_goto (tgt := 33) C d_X12_reader_93 (by decide) ?_
        refine V_lv [1, 2, 3, 0] rfl (ih M (wr_i (x4 + 1)) (ok_wr _) h)
      · skip
        refine V_aload_n (j := 0) C d_X12_reader_58 rfl rfl ?_
        refine V_iload (j := 3) C d_X12_reader_59 rfl ?_
        refine V_callVwi (K' := K_X12_notesOf) (a := x0) (ci := 12) (av := [iv_i x4]) (rest := []) yi_X12_notesOf (by decide) rfl C (yk_X12_notesOf) l1_X12_156 (by decide) d_X12_reader_61 (fun v hv => ct_X12_notesOf x0 x4 o_x4 hv) rfl rfl (Nat.le_of_ble_eq_true rfl) h (fun z4 o4 h => ?_)
        refine V_istore (lv' := [(5, iv_i z4.2), (0, .ref (G.1 + x0)), (1, iv_i x1), (2, iv_i x2), (4, iv_i x4)]) C d_X12_reader_64 (by decide) rfl ?_
        refine V_iload (j := 0) C d_X12_reader_66 rfl ?_
        refine V_ldcw (v := 1048576) C d_X12_reader_68 cn_X12_265 ?_
        refine V_icmp_ge (tgt := 90) C d_X12_reader_71 (by decide) o4 (okc rfl) h (fun h => ?_) (fun h => ?_)
        · skip
          refine V_iload (j := 0) C d_X12_reader_74 rfl ?_
          refine V_iload_n (j := 2) C d_X12_reader_76 rfl rfl ?_
          refine V_iconst C d_X12_reader_77 ?_
          refine V_ixor C d_X12_reader_78 ?_
          refine V_iand C d_X12_reader_79 ?_
          refine V_callSri (K' := K_X12_bits) (av := [iv_i (an_i z4.2 (xo_i x1 (-1)))]) (rest := []) ys_X12_bits C (yk_X12_bits) l1_X12_266 (by decide) d_X12_reader_80 (fun v hv => ct_X12_bits (an_i z4.2 (xo_i x1 (-1))) (ok_I _) hv) rfl rfl (Nat.le_of_ble_eq_true rfl) h (fun v5 o5 h => ?_)
          refine V_iload_n (j := 3) C d_X12_reader_83 rfl rfl ?_
          refine V_icmp_gt (tgt := 90) C d_X12_reader_84 (by decide) o5 o_x2 h (fun h => ?_) (fun h => ?_)
          · skip
            refine V_iload (j := 4) C d_X12_reader_87 rfl ?_
            exact V_iret_w C hR d_X12_reader_89 o_x4 h
          · skip
            refine V_iinc (j := 4) (lv' := [(4, iv_i (wr_i (x4 + 1))), (5, iv_i z4.2), (0, .ref (G.1 + x0)), (1, iv_i x1), (2, iv_i x2)]) C d_X12_reader_90 rfl (by decide) rfl ?_
            refine V_goto (tgt := 33) C d_X12_reader_93 (by decide) ?_
            refine V_lv [2, 3, 4, 0] rfl (ih z4.1 (wr_i (x4 + 1)) (ok_wr _) h)
        · skip
          refine V_iinc (j := 4) (lv' := [(4, iv_i (wr_i (x4 + 1))), (5, iv_i z4.2), (0, .ref (G.1 + x0)), (1, iv_i x1), (2, iv_i x2)]) C d_X12_reader_90 rfl (by decide) rfl ?_
          refine V_goto (tgt := 33) C d_X12_reader_93 (by decide) ?_
          refine V_lv [2, 3, 4, 0] rfl (ih z4.1 (wr_i (x4 + 1)) (ok_wr _) h)
    · skip
      refine V_bipush (v := (-4)) C d_X12_reader_96 rfl ?_
      exact V_iret_w C hR d_X12_reader_98 (okc rfl) h
set_option maxHeartbeats 4000000 in
set_option maxRecDepth 100000 in
theorem t_X12_reader {X : XT_x} {G : GT_g} {M : Mem_m} {z : (Mem_m × Int)} (C : Cx_ (K_X12_reader) X G) (hR : Rx_ X G (some .int)) (x0 : Nat) (x1 : Int) (x2 : Int) (x3 : Int) (o_x1 : ok_i x1) (o_x2 : ok_i x2) (o_x3 : ok_i x3) (h : f_X12_reader G.2.2.2 M x0 x1 x2 x3 = some z) : V_ (K_X12_reader) X G (Fq_ X G (Qi_ G z.1 z.2)) M 0 [(0, .ref (G.1 + x0)), (1, iv_i x1), (2, iv_i x2), (3, iv_i x3)] [] := by
  unfold f_X12_reader at h
  refine V_iload_n (j := 1) C d_X12_reader_0 rfl rfl ?_
  refine V_i2l C d_X12_reader_1 o_x1 ?_
  refine V_lconst0 C d_X12_reader_2 ?_
  refine V_ldc2 (v := 65535) C d_X12_reader_3 cl_X12_263 ?_
  refine V_callSri (K' := K_X12_isIn) (av := [jv_i x1, jv_i 0, jv_i 65535]) (rest := []) ys_X12_isIn C (yk_X12_isIn) l1_X12_69 (by decide) d_X12_reader_6 (fun v hv => ct_X12_isIn x1 0 65535 o_x1 (okc rfl) (okc rfl) hv) rfl rfl (Nat.le_of_ble_eq_true rfl) h (fun v1 o1 h => ?_)
  refine V_if_eq (tgt := 28) C d_X12_reader_9 (by decide) o1 h (fun h => ?_) (fun h => ?_)
  · skip
    refine V_iconst C d_X12_reader_28 ?_
    exact V_iret_w C hR d_X12_reader_29 (okc rfl) h
  · skip
    refine V_iload_n (j := 2) C d_X12_reader_12 rfl rfl ?_
    refine V_i2l C d_X12_reader_13 o_x2 ?_
    refine V_lconst0 C d_X12_reader_14 ?_
    refine V_ldc2 (v := 9) C d_X12_reader_15 cl_X12_83 ?_
    refine V_callSri (K' := K_X12_isIn) (av := [jv_i x2, jv_i 0, jv_i 9]) (rest := []) ys_X12_isIn C (yk_X12_isIn) l1_X12_69 (by decide) d_X12_reader_18 (fun v hv => ct_X12_isIn x2 0 9 o_x2 (okc rfl) (okc rfl) hv) rfl rfl (Nat.le_of_ble_eq_true rfl) h (fun v2 o2 h => ?_)
    refine V_if_eq (tgt := 28) C d_X12_reader_21 (by decide) o2 h (fun h => ?_) (fun h => ?_)
    · skip
      refine V_iconst C d_X12_reader_28 ?_
      exact V_iret_w C hR d_X12_reader_29 (okc rfl) h
    · skip
      refine V_iload_n (j := 3) C d_X12_reader_24 rfl rfl ?_
      refine V_if_ge (tgt := 30) C d_X12_reader_25 (by decide) o_x3 h (fun h => ?_) (fun h => ?_)
      · skip
        refine V_iconst C d_X12_reader_28 ?_
        exact V_iret_w C hR d_X12_reader_29 (okc rfl) h
      · skip
        refine V_iload_n (j := 3) C d_X12_reader_30 rfl rfl ?_
        refine V_istore (lv' := [(4, iv_i x3), (0, .ref (G.1 + x0)), (1, iv_i x1), (2, iv_i x2), (3, iv_i x3)]) C d_X12_reader_31 (by decide) rfl ?_
        refine V_lv [1, 2, 3, 0] rfl (t_X12_reader_33 C hR x0 x1 x2 o_x1 o_x2 FU_ M x3 o_x3 h)
set_option maxHeartbeats 4000000 in
set_option maxRecDepth 100000 in
theorem ct_X12_reader {l : Launch} {G : GT_g} {M : Mem_m} (x0 : Nat) (x1 : Int) (x2 : Int) (x3 : Int) (o_x1 : ok_i x1) (o_x2 : ok_i x2) (o_x3 : ok_i x3) {z : (Mem_m × Int)} (h : f_X12_reader G.2.2.2 M x0 x1 x2 x3 = some z) : MI_ l yX12_reader K_X12_reader (some .int) G M [.ref (G.1 + x0), iv_i x1, iv_i x2, iv_i x3] z.1 z.2 :=
  met_of (by decide +kernel) rfl (Nat.le_of_ble_eq_true rfl) (fun X hl C hR => by subst hl; exact t_X12_reader C hR x0 x1 x2 x3 o_x1 o_x2 o_x3 h)
theorem d_X12_word_0 : decode cX12_word 0 = .ok (.aload_n 0, 1) := by decide +kernel
theorem d_X12_word_1 : decode cX12_word 1 = .ok (.getfield 9, 3) := by decide +kernel
theorem d_X12_word_4 : decode cX12_word 4 = .ok (.sipush 936, 3) := by decide +kernel
theorem d_X12_word_7 : decode cX12_word 7 = .ok (.bipush 10, 2) := by decide +kernel
theorem d_X12_word_9 : decode cX12_word 9 = .ok (.iload_n 1, 1) := by decide +kernel
theorem d_X12_word_10 : decode cX12_word 10 = .ok (.imul, 1) := by decide +kernel
theorem d_X12_word_11 : decode cX12_word 11 = .ok (.iadd, 1) := by decide +kernel
theorem d_X12_word_12 : decode cX12_word 12 = .ok (.iload_n 2, 1) := by decide +kernel
theorem d_X12_word_13 : decode cX12_word 13 = .ok (.iadd, 1) := by decide +kernel
theorem d_X12_word_14 : decode cX12_word 14 = .ok (.iaload, 1) := by decide +kernel
theorem d_X12_word_15 : decode cX12_word 15 = .ok (.ireturn, 1) := by decide +kernel
set_option maxHeartbeats 4000000 in
set_option maxRecDepth 100000 in
theorem t_X12_word {X : XT_x} {G : GT_g} {M : Mem_m} {z : Int} (C : Cx_ (K_X12_word) X G) (hR : Rx_ X G (some .int)) (x0 : Nat) (x1 : Int) (x2 : Int) (o_x1 : ok_i x1) (o_x2 : ok_i x2) (h : f_X12_word G.2.2.2 M x0 x1 x2 = some z) : V_ (K_X12_word) X G (Fq_ X G (Qi_ G M z)) M 0 [(0, .ref (G.1 + x0)), (1, iv_i x1), (2, iv_i x2)] [] := by
  unfold f_X12_word at h
  refine V_aload_n (j := 0) C d_X12_word_0 rfl rfl ?_
  refine V_getR C ck_12 fw_X12_9 d_X12_word_1 h (fun v1 h => ?_)
  refine V_sipush (v := 936) C d_X12_word_4 rfl ?_
  refine V_bipush (v := 10) C d_X12_word_7 rfl ?_
  refine V_iload_n (j := 1) C d_X12_word_9 rfl rfl ?_
  refine V_imul C d_X12_word_10 ?_
  refine V_iadd C d_X12_word_11 ?_
  refine V_iload_n (j := 2) C d_X12_word_12 rfl rfl ?_
  refine V_iadd C d_X12_word_13 ?_
  refine V_iald C d_X12_word_14 (ok_wr _) h (fun v2 o2 h => ?_)
  exact V_iret_r C hR d_X12_word_15 o2 h
set_option maxHeartbeats 4000000 in
set_option maxRecDepth 100000 in
theorem ct_X12_word {l : Launch} {G : GT_g} {M : Mem_m} (x0 : Nat) (x1 : Int) (x2 : Int) (o_x1 : ok_i x1) (o_x2 : ok_i x2) {z : Int} (h : f_X12_word G.2.2.2 M x0 x1 x2 = some z) : MI_ l yX12_word K_X12_word (some .int) G M [.ref (G.1 + x0), iv_i x1, iv_i x2] M z :=
  met_of (by decide +kernel) rfl (Nat.le_of_ble_eq_true rfl) (fun X hl C hR => by subst hl; exact t_X12_word C hR x0 x1 x2 o_x1 o_x2 h)
theorem d_X12_neighbour_0 : decode cX12_neighbour 0 = .ok (.iload_n 1, 1) := by decide +kernel
theorem d_X12_neighbour_1 : decode cX12_neighbour 1 = .ok (.invokestatic 75, 3) := by decide +kernel
theorem d_X12_neighbour_4 : decode cX12_neighbour 4 = .ok (.ifCond .eq 11, 3) := by decide +kernel
theorem d_X12_neighbour_7 : decode cX12_neighbour 7 = .ok (.aload_n 0, 1) := by decide +kernel
theorem d_X12_neighbour_8 : decode cX12_neighbour 8 = .ok (.iload_n 2, 1) := by decide +kernel
theorem d_X12_neighbour_9 : decode cX12_neighbour 9 = .ok (.invokevirtual 93, 3) := by decide +kernel
theorem d_X12_neighbour_12 : decode cX12_neighbour 12 = .ok (.ifCond .ne 5, 3) := by decide +kernel
theorem d_X12_neighbour_15 : decode cX12_neighbour 15 = .ok (.iconst (-1), 1) := by decide +kernel
theorem d_X12_neighbour_16 : decode cX12_neighbour 16 = .ok (.ireturn, 1) := by decide +kernel
theorem d_X12_neighbour_17 : decode cX12_neighbour 17 = .ok (.aload_n 0, 1) := by decide +kernel
theorem d_X12_neighbour_18 : decode cX12_neighbour 18 = .ok (.getfield 9, 3) := by decide +kernel
theorem d_X12_neighbour_21 : decode cX12_neighbour 21 = .ok (.sipush 1066, 3) := by decide +kernel
theorem d_X12_neighbour_24 : decode cX12_neighbour 24 = .ok (.iaload, 1) := by decide +kernel
theorem d_X12_neighbour_25 : decode cX12_neighbour 25 = .ok (.bipush 10, 2) := by decide +kernel
theorem d_X12_neighbour_27 : decode cX12_neighbour 27 = .ok (.if_icmp .ne 6, 3) := by decide +kernel
theorem d_X12_neighbour_30 : decode cX12_neighbour 30 = .ok (.bipush (-2), 2) := by decide +kernel
theorem d_X12_neighbour_32 : decode cX12_neighbour 32 = .ok (.ireturn, 1) := by decide +kernel
theorem d_X12_neighbour_33 : decode cX12_neighbour 33 = .ok (.aload_n 0, 1) := by decide +kernel
theorem d_X12_neighbour_34 : decode cX12_neighbour 34 = .ok (.iload_n 1, 1) := by decide +kernel
theorem d_X12_neighbour_35 : decode cX12_neighbour 35 = .ok (.iconst 1, 1) := by decide +kernel
theorem d_X12_neighbour_36 : decode cX12_neighbour 36 = .ok (.bipush 8, 2) := by decide +kernel
theorem d_X12_neighbour_38 : decode cX12_neighbour 38 = .ok (.invokevirtual 89, 3) := by decide +kernel
theorem d_X12_neighbour_41 : decode cX12_neighbour 41 = .ok (.istore_n 3, 1) := by decide +kernel
theorem d_X12_neighbour_42 : decode cX12_neighbour 42 = .ok (.iload_n 3, 1) := by decide +kernel
theorem d_X12_neighbour_43 : decode cX12_neighbour 43 = .ok (.ifCond .eq 5, 3) := by decide +kernel
theorem d_X12_neighbour_46 : decode cX12_neighbour 46 = .ok (.iload_n 3, 1) := by decide +kernel
theorem d_X12_neighbour_47 : decode cX12_neighbour 47 = .ok (.ireturn, 1) := by decide +kernel
theorem d_X12_neighbour_48 : decode cX12_neighbour 48 = .ok (.sipush 936, 3) := by decide +kernel
theorem d_X12_neighbour_51 : decode cX12_neighbour 51 = .ok (.bipush 10, 2) := by decide +kernel
theorem d_X12_neighbour_53 : decode cX12_neighbour 53 = .ok (.aload_n 0, 1) := by decide +kernel
theorem d_X12_neighbour_54 : decode cX12_neighbour 54 = .ok (.getfield 9, 3) := by decide +kernel
theorem d_X12_neighbour_57 : decode cX12_neighbour 57 = .ok (.sipush 1066, 3) := by decide +kernel
theorem d_X12_neighbour_60 : decode cX12_neighbour 60 = .ok (.iaload, 1) := by decide +kernel
theorem d_X12_neighbour_61 : decode cX12_neighbour 61 = .ok (.imul, 1) := by decide +kernel
theorem d_X12_neighbour_62 : decode cX12_neighbour 62 = .ok (.iadd, 1) := by decide +kernel
theorem d_X12_neighbour_63 : decode cX12_neighbour 63 = .ok (.istore 4, 2) := by decide +kernel
theorem d_X12_neighbour_65 : decode cX12_neighbour 65 = .ok (.aload_n 0, 1) := by decide +kernel
theorem d_X12_neighbour_66 : decode cX12_neighbour 66 = .ok (.getfield 9, 3) := by decide +kernel
theorem d_X12_neighbour_69 : decode cX12_neighbour 69 = .ok (.iload 4, 2) := by decide +kernel
theorem d_X12_neighbour_71 : decode cX12_neighbour 71 = .ok (.aload_n 0, 1) := by decide +kernel
theorem d_X12_neighbour_72 : decode cX12_neighbour 72 = .ok (.getfield 22, 3) := by decide +kernel
theorem d_X12_neighbour_75 : decode cX12_neighbour 75 = .ok (.iload_n 1, 1) := by decide +kernel
theorem d_X12_neighbour_76 : decode cX12_neighbour 76 = .ok (.iaload, 1) := by decide +kernel
theorem d_X12_neighbour_77 : decode cX12_neighbour 77 = .ok (.iastore, 1) := by decide +kernel
theorem d_X12_neighbour_78 : decode cX12_neighbour 78 = .ok (.iconst 0, 1) := by decide +kernel
theorem d_X12_neighbour_79 : decode cX12_neighbour 79 = .ok (.istore 5, 2) := by decide +kernel
theorem d_X12_neighbour_81 : decode cX12_neighbour 81 = .ok (.iload 5, 2) := by decide +kernel
theorem d_X12_neighbour_83 : decode cX12_neighbour 83 = .ok (.bipush 8, 2) := by decide +kernel
theorem d_X12_neighbour_85 : decode cX12_neighbour 85 = .ok (.if_icmp .ge 48, 3) := by decide +kernel
theorem d_X12_neighbour_88 : decode cX12_neighbour 88 = .ok (.aload_n 0, 1) := by decide +kernel
theorem d_X12_neighbour_89 : decode cX12_neighbour 89 = .ok (.getfield 9, 3) := by decide +kernel
theorem d_X12_neighbour_92 : decode cX12_neighbour 92 = .ok (.iload 4, 2) := by decide +kernel
theorem d_X12_neighbour_94 : decode cX12_neighbour 94 = .ok (.iconst 1, 1) := by decide +kernel
theorem d_X12_neighbour_95 : decode cX12_neighbour 95 = .ok (.iadd, 1) := by decide +kernel
theorem d_X12_neighbour_96 : decode cX12_neighbour 96 = .ok (.iload 5, 2) := by decide +kernel
theorem d_X12_neighbour_98 : decode cX12_neighbour 98 = .ok (.iadd, 1) := by decide +kernel
theorem d_X12_neighbour_99 : decode cX12_neighbour 99 = .ok (.iload 5, 2) := by decide +kernel
theorem d_X12_neighbour_101 : decode cX12_neighbour 101 = .ok (.aload_n 0, 1) := by decide +kernel
theorem d_X12_neighbour_102 : decode cX12_neighbour 102 = .ok (.getfield 22, 3) := by decide +kernel
theorem d_X12_neighbour_105 : decode cX12_neighbour 105 = .ok (.iload_n 1, 1) := by decide +kernel
theorem d_X12_neighbour_106 : decode cX12_neighbour 106 = .ok (.iaload, 1) := by decide +kernel
theorem d_X12_neighbour_107 : decode cX12_neighbour 107 = .ok (.if_icmp .ge 18, 3) := by decide +kernel
theorem d_X12_neighbour_110 : decode cX12_neighbour 110 = .ok (.aload_n 0, 1) := by decide +kernel
theorem d_X12_neighbour_111 : decode cX12_neighbour 111 = .ok (.getfield 25, 3) := by decide +kernel
theorem d_X12_neighbour_114 : decode cX12_neighbour 114 = .ok (.bipush 80, 2) := by decide +kernel
theorem d_X12_neighbour_116 : decode cX12_neighbour 116 = .ok (.iload_n 1, 1) := by decide +kernel
theorem d_X12_neighbour_117 : decode cX12_neighbour 117 = .ok (.imul, 1) := by decide +kernel
theorem d_X12_neighbour_118 : decode cX12_neighbour 118 = .ok (.iload 5, 2) := by decide +kernel
theorem d_X12_neighbour_120 : decode cX12_neighbour 120 = .ok (.iadd, 1) := by decide +kernel
theorem d_X12_neighbour_121 : decode cX12_neighbour 121 = .ok (.iaload, 1) := by decide +kernel
theorem d_X12_neighbour_122 : decode cX12_neighbour 122 = .ok (.goto 4, 3) := by decide +kernel
theorem d_X12_neighbour_125 : decode cX12_neighbour 125 = .ok (.iconst 0, 1) := by decide +kernel
theorem d_X12_neighbour_126 : decode cX12_neighbour 126 = .ok (.iastore, 1) := by decide +kernel
theorem d_X12_neighbour_127 : decode cX12_neighbour 127 = .ok (.iinc 5 1, 3) := by decide +kernel
theorem d_X12_neighbour_130 : decode cX12_neighbour 130 = .ok (.goto (-49), 3) := by decide +kernel
theorem d_X12_neighbour_133 : decode cX12_neighbour 133 = .ok (.aload_n 0, 1) := by decide +kernel
theorem d_X12_neighbour_134 : decode cX12_neighbour 134 = .ok (.getfield 9, 3) := by decide +kernel
theorem d_X12_neighbour_137 : decode cX12_neighbour 137 = .ok (.iload 4, 2) := by decide +kernel
theorem d_X12_neighbour_139 : decode cX12_neighbour 139 = .ok (.bipush 9, 2) := by decide +kernel
theorem d_X12_neighbour_141 : decode cX12_neighbour 141 = .ok (.iadd, 1) := by decide +kernel
theorem d_X12_neighbour_142 : decode cX12_neighbour 142 = .ok (.iload_n 2, 1) := by decide +kernel
theorem d_X12_neighbour_143 : decode cX12_neighbour 143 = .ok (.iastore, 1) := by decide +kernel
theorem d_X12_neighbour_144 : decode cX12_neighbour 144 = .ok (.aload_n 0, 1) := by decide +kernel
theorem d_X12_neighbour_145 : decode cX12_neighbour 145 = .ok (.getfield 9, 3) := by decide +kernel
theorem d_X12_neighbour_148 : decode cX12_neighbour 148 = .ok (.sipush 1066, 3) := by decide +kernel
theorem d_X12_neighbour_151 : decode cX12_neighbour 151 = .ok (.dup2, 1) := by decide +kernel
theorem d_X12_neighbour_152 : decode cX12_neighbour 152 = .ok (.iaload, 1) := by decide +kernel
theorem d_X12_neighbour_153 : decode cX12_neighbour 153 = .ok (.iconst 1, 1) := by decide +kernel
theorem d_X12_neighbour_154 : decode cX12_neighbour 154 = .ok (.iadd, 1) := by decide +kernel
theorem d_X12_neighbour_155 : decode cX12_neighbour 155 = .ok (.iastore, 1) := by decide +kernel
theorem d_X12_neighbour_156 : decode cX12_neighbour 156 = .ok (.aload_n 0, 1) := by decide +kernel
theorem d_X12_neighbour_157 : decode cX12_neighbour 157 = .ok (.getfield 9, 3) := by decide +kernel
theorem d_X12_neighbour_160 : decode cX12_neighbour 160 = .ok (.sipush 1066, 3) := by decide +kernel
theorem d_X12_neighbour_163 : decode cX12_neighbour 163 = .ok (.iaload, 1) := by decide +kernel
theorem d_X12_neighbour_164 : decode cX12_neighbour 164 = .ok (.iconst 1, 1) := by decide +kernel
theorem d_X12_neighbour_165 : decode cX12_neighbour 165 = .ok (.isub, 1) := by decide +kernel
theorem d_X12_neighbour_166 : decode cX12_neighbour 166 = .ok (.ireturn, 1) := by decide +kernel
set_option maxHeartbeats 4000000 in
set_option maxRecDepth 100000 in
theorem t_X12_neighbour_81 {X : XT_x} {G : GT_g} {z : (Mem_m × Int)} (C : Cx_ (K_X12_neighbour) X G) (hR : Rx_ X G (some .int)) (x0 : Nat) (x1 : Int) (x2 : Int) (x4 : Int) (o_x1 : ok_i x1) (o_x2 : ok_i x2) (o_x4 : ok_i x4) : ∀ (n : Nat) (M : Mem_m) (x5 : Int) (o_x5 : ok_i x5), f_X12_neighbour_81 G.2.2.2 x0 x1 x2 x4 n M x5 = some z → V_ (K_X12_neighbour) X G (Fq_ X G (Qi_ G z.1 z.2)) M 81 [(0, .ref (G.1 + x0)), (1, iv_i x1), (2, iv_i x2), (4, iv_i x4), (5, iv_i x5)] [] := by
  intro n
  induction n with
  | zero => intro M x5 o_x5 h; exact absurd h (by simp [f_X12_neighbour_81])
  | succ n ih =>
    intro M x5 o_x5 h
    unfold f_X12_neighbour_81 at h
    refine V_iload (j := 4) C d_X12_neighbour_81 rfl ?_
    refine V_bipush (v := 8) C d_X12_neighbour_83 rfl ?_
    refine V_icmp_ge (tgt := 133) C d_X12_neighbour_85 (by decide) o_x5 (okc rfl) h (fun h => ?_) (fun h => ?_)
    · skip
      refine V_aload_n (j := 0) C d_X12_neighbour_88 rfl rfl ?_
      refine V_getR C ck_12 fw_X12_9 d_X12_neighbour_89 h (fun v1 h => ?_)
      refine V_iload (j := 3) C d_X12_neighbour_92 rfl ?_
      refine V_iconst C d_X12_neighbour_94 ?_
      refine V_iadd C d_X12_neighbour_95 ?_
      refine V_iload (j := 4) C d_X12_neighbour_96 rfl ?_
      refine V_iadd C d_X12_neighbour_98 ?_
      refine V_iload (j := 4) C d_X12_neighbour_99 rfl ?_
      refine V_aload_n (j := 0) C d_X12_neighbour_101 rfl rfl ?_
      refine V_getR C ck_12 fw_X12_22 d_X12_neighbour_102 h (fun v2 h => ?_)
      refine V_iload_n (j := 1) C d_X12_neighbour_105 rfl rfl ?_
      refine V_iald C d_X12_neighbour_106 o_x1 h (fun v3 o3 h => ?_)
      refine V_icmp_ge (tgt := 125) C d_X12_neighbour_107 (by decide) o_x5 o3 h (fun h => ?_) (fun h => ?_)
      · skip
        refine V_aload_n (j := 0) C d_X12_neighbour_110 rfl rfl ?_
        refine V_getR C ck_12 fw_X12_25 d_X12_neighbour_111 h (fun v4 h => ?_)
        refine V_bipush (v := 80) C d_X12_neighbour_114 rfl ?_
        refine V_iload_n (j := 1) C d_X12_neighbour_116 rfl rfl ?_
        refine V_imul C d_X12_neighbour_117 ?_
        refine V_iload (j := 4) C d_X12_neighbour_118 rfl ?_
        refine V_iadd C d_X12_neighbour_120 ?_
        refine V_iald C d_X12_neighbour_121 (ok_wr _) h (fun v5 o5 h => ?_)
        refine V_goto (tgt := 126) C d_X12_neighbour_122 (by decide) ?_
        refine V_iast C d_X12_neighbour_126 (ok_wr _) o5 h (fun M6 h => ?_)
        refine V_iinc (j := 4) (lv' := [(5, iv_i (wr_i (x5 + 1))), (0, .ref (G.1 + x0)), (1, iv_i x1), (2, iv_i x2), (4, iv_i x4)]) C d_X12_neighbour_127 rfl (by decide) rfl ?_
        refine V_goto (tgt := 81) C d_X12_neighbour_130 (by decide) ?_
        refine V_lv [1, 2, 3, 4, 0] rfl (ih M6 (wr_i (x5 + 1)) (ok_wr _) h)
      · skip
        refine V_iconst C d_X12_neighbour_125 ?_
        refine V_iast C d_X12_neighbour_126 (ok_wr _) (okc rfl) h (fun M7 h => ?_)
        refine V_iinc (j := 4) (lv' := [(5, iv_i (wr_i (x5 + 1))), (0, .ref (G.1 + x0)), (1, iv_i x1), (2, iv_i x2), (4, iv_i x4)]) C d_X12_neighbour_127 rfl (by decide) rfl ?_
        refine V_goto (tgt := 81) C d_X12_neighbour_130 (by decide) ?_
        refine V_lv [1, 2, 3, 4, 0] rfl (ih M7 (wr_i (x5 + 1)) (ok_wr _) h)
    · skip
      refine V_aload_n (j := 0) C d_X12_neighbour_133 rfl rfl ?_
      refine V_getR C ck_12 fw_X12_9 d_X12_neighbour_134 h (fun v8 h => ?_)
      refine V_iload (j := 3) C d_X12_neighbour_137 rfl ?_
      refine V_bipush (v := 9) C d_X12_neighbour_139 rfl ?_
      refine V_iadd C d_X12_neighbour_141 ?_
      refine V_iload_n (j := 2) C d_X12_neighbour_142 rfl rfl ?_
      refine V_iast C d_X12_neighbour_143 (ok_wr _) o_x2 h (fun M9 h => ?_)
      refine V_aload_n (j := 0) C d_X12_neighbour_144 rfl rfl ?_
      refine V_getR C ck_12 fw_X12_9 d_X12_neighbour_145 h (fun v10 h => ?_)
      refine V_sipush (v := 1066) C d_X12_neighbour_148 rfl ?_
      refine V_dup2 C d_X12_neighbour_151 rfl rfl ?_
      refine V_iald C d_X12_neighbour_152 (okc rfl) h (fun v11 o11 h => ?_)
      refine V_iconst C d_X12_neighbour_153 ?_
      refine V_iadd C d_X12_neighbour_154 ?_
      refine V_iast C d_X12_neighbour_155 (okc rfl) (ok_wr _) h (fun M12 h => ?_)
      refine V_aload_n (j := 0) C d_X12_neighbour_156 rfl rfl ?_
      refine V_getR C ck_12 fw_X12_9 d_X12_neighbour_157 h (fun v13 h => ?_)
      refine V_sipush (v := 1066) C d_X12_neighbour_160 rfl ?_
      refine V_iald C d_X12_neighbour_163 (okc rfl) h (fun v14 o14 h => ?_)
      refine V_iconst C d_X12_neighbour_164 ?_
      refine V_isub C d_X12_neighbour_165 ?_
      exact V_iret_w C hR d_X12_neighbour_166 (ok_wr _) h
set_option maxHeartbeats 4000000 in
set_option maxRecDepth 100000 in
theorem t_X12_neighbour {X : XT_x} {G : GT_g} {M : Mem_m} {z : (Mem_m × Int)} (C : Cx_ (K_X12_neighbour) X G) (hR : Rx_ X G (some .int)) (x0 : Nat) (x1 : Int) (x2 : Int) (o_x1 : ok_i x1) (o_x2 : ok_i x2) (h : f_X12_neighbour G.2.2.2 M x0 x1 x2 = some z) : V_ (K_X12_neighbour) X G (Fq_ X G (Qi_ G z.1 z.2)) M 0 [(0, .ref (G.1 + x0)), (1, iv_i x1), (2, iv_i x2)] [] := by
  unfold f_X12_neighbour at h
  refine V_iload_n (j := 1) C d_X12_neighbour_0 rfl rfl ?_
  refine V_callSri (K' := K_X12_isShelf) (av := [iv_i x1]) (rest := []) ys_X12_isShelf C (yk_X12_isShelf) l1_X12_75 (by decide) d_X12_neighbour_1 (fun v hv => ct_X12_isShelf x1 o_x1 hv) rfl rfl (Nat.le_of_ble_eq_true rfl) h (fun v1 o1 h => ?_)
  refine V_if_eq (tgt := 15) C d_X12_neighbour_4 (by decide) o1 h (fun h => ?_) (fun h => ?_)
  · skip
    refine V_iconst C d_X12_neighbour_15 ?_
    exact V_iret_w C hR d_X12_neighbour_16 (okc rfl) h
  · skip
    refine V_aload_n (j := 0) C d_X12_neighbour_7 rfl rfl ?_
    refine V_iload_n (j := 2) C d_X12_neighbour_8 rfl rfl ?_
    refine V_callVri (K' := K_X12_isCard) (a := x0) (ci := 12) (av := [iv_i x2]) (rest := []) yi_X12_isCard (by decide) rfl C (yk_X12_isCard) l1_X12_93 (by decide) d_X12_neighbour_9 (fun v hv => ct_X12_isCard x0 x2 o_x2 hv) rfl rfl (Nat.le_of_ble_eq_true rfl) h (fun v2 o2 h => ?_)
    refine V_if_ne (tgt := 17) C d_X12_neighbour_12 (by decide) o2 h (fun h => ?_) (fun h => ?_)
    · skip
      refine V_iconst C d_X12_neighbour_15 ?_
      exact V_iret_w C hR d_X12_neighbour_16 (okc rfl) h
    · skip
      refine V_aload_n (j := 0) C d_X12_neighbour_17 rfl rfl ?_
      refine V_getR C ck_12 fw_X12_9 d_X12_neighbour_18 h (fun v3 h => ?_)
      refine V_sipush (v := 1066) C d_X12_neighbour_21 rfl ?_
      refine V_iald C d_X12_neighbour_24 (okc rfl) h (fun v4 o4 h => ?_)
      refine V_bipush (v := 10) C d_X12_neighbour_25 rfl ?_
      refine V_icmp_ne (tgt := 33) C d_X12_neighbour_27 (by decide) o4 (okc rfl) h (fun h => ?_) (fun h => ?_)
      · skip
        refine V_bipush (v := (-2)) C d_X12_neighbour_30 rfl ?_
        exact V_iret_w C hR d_X12_neighbour_32 (okc rfl) h
      · skip
        refine V_aload_n (j := 0) C d_X12_neighbour_33 rfl rfl ?_
        refine V_iload_n (j := 1) C d_X12_neighbour_34 rfl rfl ?_
        refine V_iconst C d_X12_neighbour_35 ?_
        refine V_bipush (v := 8) C d_X12_neighbour_36 rfl ?_
        refine V_callVri (K' := K_X12_wrongSounds) (a := x0) (ci := 12) (av := [iv_i x1, iv_i 1, iv_i 8]) (rest := []) yi_X12_wrongSounds (by decide) rfl C (yk_X12_wrongSounds) l1_X12_89 (by decide) d_X12_neighbour_38 (fun v hv => ct_X12_wrongSounds x0 x1 1 8 o_x1 (okc rfl) (okc rfl) hv) rfl rfl (Nat.le_of_ble_eq_true rfl) h (fun v5 o5 h => ?_)
        refine V_istore_n (lv' := [(3, iv_i v5), (0, .ref (G.1 + x0)), (1, iv_i x1), (2, iv_i x2)]) C d_X12_neighbour_41 rfl (by decide) rfl ?_
        refine V_iload_n (j := 0) C d_X12_neighbour_42 rfl rfl ?_
        refine V_if_eq (tgt := 48) C d_X12_neighbour_43 (by decide) o5 h (fun h => ?_) (fun h => ?_)
        · skip
          refine V_sipush (v := 936) C d_X12_neighbour_48 rfl ?_
          refine V_bipush (v := 10) C d_X12_neighbour_51 rfl ?_
          refine V_aload_n (j := 1) C d_X12_neighbour_53 rfl rfl ?_
          refine V_getR C ck_12 fw_X12_9 d_X12_neighbour_54 h (fun v6 h => ?_)
          refine V_sipush (v := 1066) C d_X12_neighbour_57 rfl ?_
          refine V_iald C d_X12_neighbour_60 (okc rfl) h (fun v7 o7 h => ?_)
          refine V_imul C d_X12_neighbour_61 ?_
          refine V_iadd C d_X12_neighbour_62 ?_
          refine V_istore (lv' := [(4, iv_i (wr_i (936 + (wr_i (10 * v7))))), (3, iv_i v5), (0, .ref (G.1 + x0)), (1, iv_i x1), (2, iv_i x2)]) C d_X12_neighbour_63 (by decide) rfl ?_
          refine V_aload_n (j := 2) C d_X12_neighbour_65 rfl rfl ?_
          refine V_getR C ck_12 fw_X12_9 d_X12_neighbour_66 h (fun v8 h => ?_)
          refine V_iload (j := 0) C d_X12_neighbour_69 rfl ?_
          refine V_aload_n (j := 2) C d_X12_neighbour_71 rfl rfl ?_
          refine V_getR C ck_12 fw_X12_22 d_X12_neighbour_72 h (fun v9 h => ?_)
          refine V_iload_n (j := 3) C d_X12_neighbour_75 rfl rfl ?_
          refine V_iald C d_X12_neighbour_76 o_x1 h (fun v10 o10 h => ?_)
          refine V_iast C d_X12_neighbour_77 (ok_wr _) o10 h (fun M11 h => ?_)
          refine V_iconst C d_X12_neighbour_78 ?_
          refine V_istore (lv' := [(5, iv_i 0), (4, iv_i (wr_i (936 + (wr_i (10 * v7))))), (3, iv_i v5), (0, .ref (G.1 + x0)), (1, iv_i x1), (2, iv_i x2)]) C d_X12_neighbour_79 (by decide) rfl ?_
          refine V_lv [3, 4, 5, 1, 0] rfl (t_X12_neighbour_81 C hR x0 x1 x2 (wr_i (936 + (wr_i (10 * v7)))) o_x1 o_x2 (ok_wr _) FU_ M11 0 (okc rfl) h)
        · skip
          refine V_iload_n (j := 0) C d_X12_neighbour_46 rfl rfl ?_
          exact V_iret_w C hR d_X12_neighbour_47 o5 h
set_option maxHeartbeats 4000000 in
set_option maxRecDepth 100000 in
theorem ct_X12_neighbour {l : Launch} {G : GT_g} {M : Mem_m} (x0 : Nat) (x1 : Int) (x2 : Int) (o_x1 : ok_i x1) (o_x2 : ok_i x2) {z : (Mem_m × Int)} (h : f_X12_neighbour G.2.2.2 M x0 x1 x2 = some z) : MI_ l yX12_neighbour K_X12_neighbour (some .int) G M [.ref (G.1 + x0), iv_i x1, iv_i x2] z.1 z.2 :=
  met_of (by decide +kernel) rfl (Nat.le_of_ble_eq_true rfl) (fun X hl C hR => by subst hl; exact t_X12_neighbour C hR x0 x1 x2 o_x1 o_x2 h)
theorem d_X12_findLaws_0 : decode cX12_findLaws 0 = .ok (.iconst 0, 1) := by decide +kernel
theorem d_X12_findLaws_1 : decode cX12_findLaws 1 = .ok (.istore_n 1, 1) := by decide +kernel
theorem d_X12_findLaws_2 : decode cX12_findLaws 2 = .ok (.iload_n 1, 1) := by decide +kernel
theorem d_X12_findLaws_3 : decode cX12_findLaws 3 = .ok (.bipush 100, 2) := by decide +kernel
theorem d_X12_findLaws_5 : decode cX12_findLaws 5 = .ok (.if_icmp .ge 16, 3) := by decide +kernel
theorem d_X12_findLaws_8 : decode cX12_findLaws 8 = .ok (.aload_n 0, 1) := by decide +kernel
theorem d_X12_findLaws_9 : decode cX12_findLaws 9 = .ok (.getfield 59, 3) := by decide +kernel
theorem d_X12_findLaws_12 : decode cX12_findLaws 12 = .ok (.iload_n 1, 1) := by decide +kernel
theorem d_X12_findLaws_13 : decode cX12_findLaws 13 = .ok (.iconst 0, 1) := by decide +kernel
theorem d_X12_findLaws_14 : decode cX12_findLaws 14 = .ok (.iastore, 1) := by decide +kernel
theorem d_X12_findLaws_15 : decode cX12_findLaws 15 = .ok (.iinc 1 1, 3) := by decide +kernel
theorem d_X12_findLaws_18 : decode cX12_findLaws 18 = .ok (.goto (-16), 3) := by decide +kernel
theorem d_X12_findLaws_21 : decode cX12_findLaws 21 = .ok (.iconst 0, 1) := by decide +kernel
theorem d_X12_findLaws_22 : decode cX12_findLaws 22 = .ok (.istore_n 1, 1) := by decide +kernel
theorem d_X12_findLaws_23 : decode cX12_findLaws 23 = .ok (.iload_n 1, 1) := by decide +kernel
theorem d_X12_findLaws_24 : decode cX12_findLaws 24 = .ok (.aload_n 0, 1) := by decide +kernel
theorem d_X12_findLaws_25 : decode cX12_findLaws 25 = .ok (.getfield 9, 3) := by decide +kernel
theorem d_X12_findLaws_28 : decode cX12_findLaws 28 = .ok (.sipush 1066, 3) := by decide +kernel
theorem d_X12_findLaws_31 : decode cX12_findLaws 31 = .ok (.iaload, 1) := by decide +kernel
theorem d_X12_findLaws_32 : decode cX12_findLaws 32 = .ok (.if_icmp .ge 90, 3) := by decide +kernel
theorem d_X12_findLaws_35 : decode cX12_findLaws 35 = .ok (.aload_n 0, 1) := by decide +kernel
theorem d_X12_findLaws_36 : decode cX12_findLaws 36 = .ok (.iload_n 1, 1) := by decide +kernel
theorem d_X12_findLaws_37 : decode cX12_findLaws 37 = .ok (.bipush 9, 2) := by decide +kernel
theorem d_X12_findLaws_39 : decode cX12_findLaws 39 = .ok (.invokevirtual 269, 3) := by decide +kernel
theorem d_X12_findLaws_42 : decode cX12_findLaws 42 = .ok (.istore_n 2, 1) := by decide +kernel
theorem d_X12_findLaws_43 : decode cX12_findLaws 43 = .ok (.aload_n 0, 1) := by decide +kernel
theorem d_X12_findLaws_44 : decode cX12_findLaws 44 = .ok (.getfield 56, 3) := by decide +kernel
theorem d_X12_findLaws_47 : decode cX12_findLaws 47 = .ok (.iload_n 1, 1) := by decide +kernel
theorem d_X12_findLaws_48 : decode cX12_findLaws 48 = .ok (.iaload, 1) := by decide +kernel
theorem d_X12_findLaws_49 : decode cX12_findLaws 49 = .ok (.istore_n 3, 1) := by decide +kernel
theorem d_X12_findLaws_50 : decode cX12_findLaws 50 = .ok (.iconst 0, 1) := by decide +kernel
theorem d_X12_findLaws_51 : decode cX12_findLaws 51 = .ok (.istore 4, 2) := by decide +kernel
theorem d_X12_findLaws_53 : decode cX12_findLaws 53 = .ok (.iload 4, 2) := by decide +kernel
theorem d_X12_findLaws_55 : decode cX12_findLaws 55 = .ok (.aload_n 0, 1) := by decide +kernel
theorem d_X12_findLaws_56 : decode cX12_findLaws 56 = .ok (.iload_n 2, 1) := by decide +kernel
theorem d_X12_findLaws_57 : decode cX12_findLaws 57 = .ok (.iconst 0, 1) := by decide +kernel
theorem d_X12_findLaws_58 : decode cX12_findLaws 58 = .ok (.invokevirtual 98, 3) := by decide +kernel
theorem d_X12_findLaws_61 : decode cX12_findLaws 61 = .ok (.if_icmp .ge 55, 3) := by decide +kernel
theorem d_X12_findLaws_64 : decode cX12_findLaws 64 = .ok (.aload_n 0, 1) := by decide +kernel
theorem d_X12_findLaws_65 : decode cX12_findLaws 65 = .ok (.iload_n 2, 1) := by decide +kernel
theorem d_X12_findLaws_66 : decode cX12_findLaws 66 = .ok (.iconst 0, 1) := by decide +kernel
theorem d_X12_findLaws_67 : decode cX12_findLaws 67 = .ok (.invokevirtual 98, 3) := by decide +kernel
theorem d_X12_findLaws_70 : decode cX12_findLaws 70 = .ok (.aload_n 0, 1) := by decide +kernel
theorem d_X12_findLaws_71 : decode cX12_findLaws 71 = .ok (.iload_n 3, 1) := by decide +kernel
theorem d_X12_findLaws_72 : decode cX12_findLaws 72 = .ok (.iconst 0, 1) := by decide +kernel
theorem d_X12_findLaws_73 : decode cX12_findLaws 73 = .ok (.invokevirtual 269, 3) := by decide +kernel
theorem d_X12_findLaws_76 : decode cX12_findLaws 76 = .ok (.if_icmp .ne 40, 3) := by decide +kernel
theorem d_X12_findLaws_79 : decode cX12_findLaws 79 = .ok (.aload_n 0, 1) := by decide +kernel
theorem d_X12_findLaws_80 : decode cX12_findLaws 80 = .ok (.getfield 59, 3) := by decide +kernel
theorem d_X12_findLaws_83 : decode cX12_findLaws 83 = .ok (.bipush 10, 2) := by decide +kernel
theorem d_X12_findLaws_85 : decode cX12_findLaws 85 = .ok (.aload_n 0, 1) := by decide +kernel
theorem d_X12_findLaws_86 : decode cX12_findLaws 86 = .ok (.iload_n 2, 1) := by decide +kernel
theorem d_X12_findLaws_87 : decode cX12_findLaws 87 = .ok (.iconst 1, 1) := by decide +kernel
theorem d_X12_findLaws_88 : decode cX12_findLaws 88 = .ok (.iload 4, 2) := by decide +kernel
theorem d_X12_findLaws_90 : decode cX12_findLaws 90 = .ok (.iadd, 1) := by decide +kernel
theorem d_X12_findLaws_91 : decode cX12_findLaws 91 = .ok (.invokevirtual 98, 3) := by decide +kernel
theorem d_X12_findLaws_94 : decode cX12_findLaws 94 = .ok (.imul, 1) := by decide +kernel
theorem d_X12_findLaws_95 : decode cX12_findLaws 95 = .ok (.aload_n 0, 1) := by decide +kernel
theorem d_X12_findLaws_96 : decode cX12_findLaws 96 = .ok (.iload_n 3, 1) := by decide +kernel
theorem d_X12_findLaws_97 : decode cX12_findLaws 97 = .ok (.iconst 1, 1) := by decide +kernel
theorem d_X12_findLaws_98 : decode cX12_findLaws 98 = .ok (.iload 4, 2) := by decide +kernel
theorem d_X12_findLaws_100 : decode cX12_findLaws 100 = .ok (.iadd, 1) := by decide +kernel
theorem d_X12_findLaws_101 : decode cX12_findLaws 101 = .ok (.invokevirtual 269, 3) := by decide +kernel
theorem d_X12_findLaws_104 : decode cX12_findLaws 104 = .ok (.iadd, 1) := by decide +kernel
theorem d_X12_findLaws_105 : decode cX12_findLaws 105 = .ok (.dup2, 1) := by decide +kernel
theorem d_X12_findLaws_106 : decode cX12_findLaws 106 = .ok (.iaload, 1) := by decide +kernel
theorem d_X12_findLaws_107 : decode cX12_findLaws 107 = .ok (.iconst 1, 1) := by decide +kernel
theorem d_X12_findLaws_108 : decode cX12_findLaws 108 = .ok (.iadd, 1) := by decide +kernel
theorem d_X12_findLaws_109 : decode cX12_findLaws 109 = .ok (.iastore, 1) := by decide +kernel
theorem d_X12_findLaws_110 : decode cX12_findLaws 110 = .ok (.iinc 4 1, 3) := by decide +kernel
theorem d_X12_findLaws_113 : decode cX12_findLaws 113 = .ok (.goto (-60), 3) := by decide +kernel
theorem d_X12_findLaws_116 : decode cX12_findLaws 116 = .ok (.iinc 1 1, 3) := by decide +kernel
theorem d_X12_findLaws_119 : decode cX12_findLaws 119 = .ok (.goto (-96), 3) := by decide +kernel
theorem d_X12_findLaws_122 : decode cX12_findLaws 122 = .ok (.iconst 0, 1) := by decide +kernel
theorem d_X12_findLaws_123 : decode cX12_findLaws 123 = .ok (.istore_n 1, 1) := by decide +kernel
theorem d_X12_findLaws_124 : decode cX12_findLaws 124 = .ok (.iload_n 1, 1) := by decide +kernel
theorem d_X12_findLaws_125 : decode cX12_findLaws 125 = .ok (.bipush 10, 2) := by decide +kernel
theorem d_X12_findLaws_127 : decode cX12_findLaws 127 = .ok (.if_icmp .ge 112, 3) := by decide +kernel
theorem d_X12_findLaws_130 : decode cX12_findLaws 130 = .ok (.aload_n 0, 1) := by decide +kernel
theorem d_X12_findLaws_131 : decode cX12_findLaws 131 = .ok (.getfield 62, 3) := by decide +kernel
theorem d_X12_findLaws_134 : decode cX12_findLaws 134 = .ok (.iload_n 1, 1) := by decide +kernel
theorem d_X12_findLaws_135 : decode cX12_findLaws 135 = .ok (.iconst 0, 1) := by decide +kernel
theorem d_X12_findLaws_136 : decode cX12_findLaws 136 = .ok (.iastore, 1) := by decide +kernel
theorem d_X12_findLaws_137 : decode cX12_findLaws 137 = .ok (.iconst 1, 1) := by decide +kernel
theorem d_X12_findLaws_138 : decode cX12_findLaws 138 = .ok (.istore_n 2, 1) := by decide +kernel
theorem d_X12_findLaws_139 : decode cX12_findLaws 139 = .ok (.iload_n 2, 1) := by decide +kernel
theorem d_X12_findLaws_140 : decode cX12_findLaws 140 = .ok (.bipush 10, 2) := by decide +kernel
theorem d_X12_findLaws_142 : decode cX12_findLaws 142 = .ok (.if_icmp .ge 55, 3) := by decide +kernel
theorem d_X12_findLaws_145 : decode cX12_findLaws 145 = .ok (.aload_n 0, 1) := by decide +kernel
theorem d_X12_findLaws_146 : decode cX12_findLaws 146 = .ok (.getfield 62, 3) := by decide +kernel
theorem d_X12_findLaws_149 : decode cX12_findLaws 149 = .ok (.iload_n 1, 1) := by decide +kernel
theorem d_X12_findLaws_150 : decode cX12_findLaws 150 = .ok (.aload_n 0, 1) := by decide +kernel
theorem d_X12_findLaws_151 : decode cX12_findLaws 151 = .ok (.getfield 59, 3) := by decide +kernel
theorem d_X12_findLaws_154 : decode cX12_findLaws 154 = .ok (.bipush 10, 2) := by decide +kernel
theorem d_X12_findLaws_156 : decode cX12_findLaws 156 = .ok (.iload_n 1, 1) := by decide +kernel
theorem d_X12_findLaws_157 : decode cX12_findLaws 157 = .ok (.imul, 1) := by decide +kernel
theorem d_X12_findLaws_158 : decode cX12_findLaws 158 = .ok (.iload_n 2, 1) := by decide +kernel
theorem d_X12_findLaws_159 : decode cX12_findLaws 159 = .ok (.iadd, 1) := by decide +kernel
theorem d_X12_findLaws_160 : decode cX12_findLaws 160 = .ok (.iaload, 1) := by decide +kernel
theorem d_X12_findLaws_161 : decode cX12_findLaws 161 = .ok (.aload_n 0, 1) := by decide +kernel
theorem d_X12_findLaws_162 : decode cX12_findLaws 162 = .ok (.getfield 59, 3) := by decide +kernel
theorem d_X12_findLaws_165 : decode cX12_findLaws 165 = .ok (.bipush 10, 2) := by decide +kernel
theorem d_X12_findLaws_167 : decode cX12_findLaws 167 = .ok (.iload_n 1, 1) := by decide +kernel
theorem d_X12_findLaws_168 : decode cX12_findLaws 168 = .ok (.imul, 1) := by decide +kernel
theorem d_X12_findLaws_169 : decode cX12_findLaws 169 = .ok (.aload_n 0, 1) := by decide +kernel
theorem d_X12_findLaws_170 : decode cX12_findLaws 170 = .ok (.getfield 62, 3) := by decide +kernel
theorem d_X12_findLaws_173 : decode cX12_findLaws 173 = .ok (.iload_n 1, 1) := by decide +kernel
theorem d_X12_findLaws_174 : decode cX12_findLaws 174 = .ok (.iaload, 1) := by decide +kernel
theorem d_X12_findLaws_175 : decode cX12_findLaws 175 = .ok (.iadd, 1) := by decide +kernel
theorem d_X12_findLaws_176 : decode cX12_findLaws 176 = .ok (.iaload, 1) := by decide +kernel
theorem d_X12_findLaws_177 : decode cX12_findLaws 177 = .ok (.if_icmp .le 7, 3) := by decide +kernel
theorem d_X12_findLaws_180 : decode cX12_findLaws 180 = .ok (.iload_n 2, 1) := by decide +kernel
theorem d_X12_findLaws_181 : decode cX12_findLaws 181 = .ok (.goto 9, 3) := by decide +kernel
theorem d_X12_findLaws_184 : decode cX12_findLaws 184 = .ok (.aload_n 0, 1) := by decide +kernel
theorem d_X12_findLaws_185 : decode cX12_findLaws 185 = .ok (.getfield 62, 3) := by decide +kernel
theorem d_X12_findLaws_188 : decode cX12_findLaws 188 = .ok (.iload_n 1, 1) := by decide +kernel
theorem d_X12_findLaws_189 : decode cX12_findLaws 189 = .ok (.iaload, 1) := by decide +kernel
theorem d_X12_findLaws_190 : decode cX12_findLaws 190 = .ok (.iastore, 1) := by decide +kernel
theorem d_X12_findLaws_191 : decode cX12_findLaws 191 = .ok (.iinc 2 1, 3) := by decide +kernel
theorem d_X12_findLaws_194 : decode cX12_findLaws 194 = .ok (.goto (-55), 3) := by decide +kernel
theorem d_X12_findLaws_197 : decode cX12_findLaws 197 = .ok (.aload_n 0, 1) := by decide +kernel
theorem d_X12_findLaws_198 : decode cX12_findLaws 198 = .ok (.getfield 62, 3) := by decide +kernel
theorem d_X12_findLaws_201 : decode cX12_findLaws 201 = .ok (.iload_n 1, 1) := by decide +kernel
theorem d_X12_findLaws_202 : decode cX12_findLaws 202 = .ok (.aload_n 0, 1) := by decide +kernel
theorem d_X12_findLaws_203 : decode cX12_findLaws 203 = .ok (.getfield 59, 3) := by decide +kernel
theorem d_X12_findLaws_206 : decode cX12_findLaws 206 = .ok (.bipush 10, 2) := by decide +kernel
theorem d_X12_findLaws_208 : decode cX12_findLaws 208 = .ok (.iload_n 1, 1) := by decide +kernel
theorem d_X12_findLaws_209 : decode cX12_findLaws 209 = .ok (.imul, 1) := by decide +kernel
theorem d_X12_findLaws_210 : decode cX12_findLaws 210 = .ok (.aload_n 0, 1) := by decide +kernel
theorem d_X12_findLaws_211 : decode cX12_findLaws 211 = .ok (.getfield 62, 3) := by decide +kernel
theorem d_X12_findLaws_214 : decode cX12_findLaws 214 = .ok (.iload_n 1, 1) := by decide +kernel
theorem d_X12_findLaws_215 : decode cX12_findLaws 215 = .ok (.iaload, 1) := by decide +kernel
theorem d_X12_findLaws_216 : decode cX12_findLaws 216 = .ok (.iadd, 1) := by decide +kernel
theorem d_X12_findLaws_217 : decode cX12_findLaws 217 = .ok (.iaload, 1) := by decide +kernel
theorem d_X12_findLaws_218 : decode cX12_findLaws 218 = .ok (.ifCond .ne 8, 3) := by decide +kernel
theorem d_X12_findLaws_221 : decode cX12_findLaws 221 = .ok (.bipush (-4), 2) := by decide +kernel
theorem d_X12_findLaws_223 : decode cX12_findLaws 223 = .ok (.goto 9, 3) := by decide +kernel
theorem d_X12_findLaws_226 : decode cX12_findLaws 226 = .ok (.aload_n 0, 1) := by decide +kernel
theorem d_X12_findLaws_227 : decode cX12_findLaws 227 = .ok (.getfield 62, 3) := by decide +kernel
theorem d_X12_findLaws_230 : decode cX12_findLaws 230 = .ok (.iload_n 1, 1) := by decide +kernel
theorem d_X12_findLaws_231 : decode cX12_findLaws 231 = .ok (.iaload, 1) := by decide +kernel
theorem d_X12_findLaws_232 : decode cX12_findLaws 232 = .ok (.iastore, 1) := by decide +kernel
theorem d_X12_findLaws_233 : decode cX12_findLaws 233 = .ok (.iinc 1 1, 3) := by decide +kernel
theorem d_X12_findLaws_236 : decode cX12_findLaws 236 = .ok (.goto (-112), 3) := by decide +kernel
theorem d_X12_findLaws_239 : decode cX12_findLaws 239 = .ok (.aload_n 0, 1) := by decide +kernel
theorem d_X12_findLaws_240 : decode cX12_findLaws 240 = .ok (.iconst 0, 1) := by decide +kernel
theorem d_X12_findLaws_241 : decode cX12_findLaws 241 = .ok (.putfield 272, 3) := by decide +kernel
theorem d_X12_findLaws_244 : decode cX12_findLaws 244 = .ok (.aload_n 0, 1) := by decide +kernel
theorem d_X12_findLaws_245 : decode cX12_findLaws 245 = .ok (.iconst 0, 1) := by decide +kernel
theorem d_X12_findLaws_246 : decode cX12_findLaws 246 = .ok (.putfield 275, 3) := by decide +kernel
theorem d_X12_findLaws_249 : decode cX12_findLaws 249 = .ok (.iconst 0, 1) := by decide +kernel
theorem d_X12_findLaws_250 : decode cX12_findLaws 250 = .ok (.istore_n 1, 1) := by decide +kernel
theorem d_X12_findLaws_251 : decode cX12_findLaws 251 = .ok (.iload_n 1, 1) := by decide +kernel
theorem d_X12_findLaws_252 : decode cX12_findLaws 252 = .ok (.aload_n 0, 1) := by decide +kernel
theorem d_X12_findLaws_253 : decode cX12_findLaws 253 = .ok (.getfield 9, 3) := by decide +kernel
theorem d_X12_findLaws_256 : decode cX12_findLaws 256 = .ok (.sipush 1066, 3) := by decide +kernel
theorem d_X12_findLaws_259 : decode cX12_findLaws 259 = .ok (.iaload, 1) := by decide +kernel
theorem d_X12_findLaws_260 : decode cX12_findLaws 260 = .ok (.if_icmp .ge 137, 3) := by decide +kernel
theorem d_X12_findLaws_263 : decode cX12_findLaws 263 = .ok (.aload_n 0, 1) := by decide +kernel
theorem d_X12_findLaws_264 : decode cX12_findLaws 264 = .ok (.iload_n 1, 1) := by decide +kernel
theorem d_X12_findLaws_265 : decode cX12_findLaws 265 = .ok (.bipush 9, 2) := by decide +kernel
theorem d_X12_findLaws_267 : decode cX12_findLaws 267 = .ok (.invokevirtual 269, 3) := by decide +kernel
theorem d_X12_findLaws_270 : decode cX12_findLaws 270 = .ok (.istore_n 2, 1) := by decide +kernel
theorem d_X12_findLaws_271 : decode cX12_findLaws 271 = .ok (.aload_n 0, 1) := by decide +kernel
theorem d_X12_findLaws_272 : decode cX12_findLaws 272 = .ok (.getfield 56, 3) := by decide +kernel
theorem d_X12_findLaws_275 : decode cX12_findLaws 275 = .ok (.iload_n 1, 1) := by decide +kernel
theorem d_X12_findLaws_276 : decode cX12_findLaws 276 = .ok (.iaload, 1) := by decide +kernel
theorem d_X12_findLaws_277 : decode cX12_findLaws 277 = .ok (.istore_n 3, 1) := by decide +kernel
theorem d_X12_findLaws_278 : decode cX12_findLaws 278 = .ok (.aload_n 0, 1) := by decide +kernel
theorem d_X12_findLaws_279 : decode cX12_findLaws 279 = .ok (.iload_n 2, 1) := by decide +kernel
theorem d_X12_findLaws_280 : decode cX12_findLaws 280 = .ok (.iconst 0, 1) := by decide +kernel
theorem d_X12_findLaws_281 : decode cX12_findLaws 281 = .ok (.invokevirtual 98, 3) := by decide +kernel
theorem d_X12_findLaws_284 : decode cX12_findLaws 284 = .ok (.aload_n 0, 1) := by decide +kernel
theorem d_X12_findLaws_285 : decode cX12_findLaws 285 = .ok (.iload_n 3, 1) := by decide +kernel
theorem d_X12_findLaws_286 : decode cX12_findLaws 286 = .ok (.iconst 0, 1) := by decide +kernel
theorem d_X12_findLaws_287 : decode cX12_findLaws 287 = .ok (.invokevirtual 269, 3) := by decide +kernel
theorem d_X12_findLaws_290 : decode cX12_findLaws 290 = .ok (.if_icmp .eq 6, 3) := by decide +kernel
theorem d_X12_findLaws_293 : decode cX12_findLaws 293 = .ok (.goto 98, 3) := by decide +kernel
theorem d_X12_findLaws_296 : decode cX12_findLaws 296 = .ok (.iconst 0, 1) := by decide +kernel
theorem d_X12_findLaws_297 : decode cX12_findLaws 297 = .ok (.istore 4, 2) := by decide +kernel
theorem d_X12_findLaws_299 : decode cX12_findLaws 299 = .ok (.iconst 0, 1) := by decide +kernel
theorem d_X12_findLaws_300 : decode cX12_findLaws 300 = .ok (.istore 5, 2) := by decide +kernel
theorem d_X12_findLaws_302 : decode cX12_findLaws 302 = .ok (.iload 5, 2) := by decide +kernel
theorem d_X12_findLaws_304 : decode cX12_findLaws 304 = .ok (.aload_n 0, 1) := by decide +kernel
theorem d_X12_findLaws_305 : decode cX12_findLaws 305 = .ok (.iload_n 2, 1) := by decide +kernel
theorem d_X12_findLaws_306 : decode cX12_findLaws 306 = .ok (.iconst 0, 1) := by decide +kernel
theorem d_X12_findLaws_307 : decode cX12_findLaws 307 = .ok (.invokevirtual 98, 3) := by decide +kernel
theorem d_X12_findLaws_310 : decode cX12_findLaws 310 = .ok (.if_icmp .ge 45, 3) := by decide +kernel
theorem d_X12_findLaws_313 : decode cX12_findLaws 313 = .ok (.iload 4, 2) := by decide +kernel
theorem d_X12_findLaws_315 : decode cX12_findLaws 315 = .ok (.aload_n 0, 1) := by decide +kernel
theorem d_X12_findLaws_316 : decode cX12_findLaws 316 = .ok (.getfield 62, 3) := by decide +kernel
theorem d_X12_findLaws_319 : decode cX12_findLaws 319 = .ok (.aload_n 0, 1) := by decide +kernel
theorem d_X12_findLaws_320 : decode cX12_findLaws 320 = .ok (.iload_n 2, 1) := by decide +kernel
theorem d_X12_findLaws_321 : decode cX12_findLaws 321 = .ok (.iconst 1, 1) := by decide +kernel
theorem d_X12_findLaws_322 : decode cX12_findLaws 322 = .ok (.iload 5, 2) := by decide +kernel
theorem d_X12_findLaws_324 : decode cX12_findLaws 324 = .ok (.iadd, 1) := by decide +kernel
theorem d_X12_findLaws_325 : decode cX12_findLaws 325 = .ok (.invokevirtual 98, 3) := by decide +kernel
theorem d_X12_findLaws_328 : decode cX12_findLaws 328 = .ok (.iaload, 1) := by decide +kernel
theorem d_X12_findLaws_329 : decode cX12_findLaws 329 = .ok (.aload_n 0, 1) := by decide +kernel
theorem d_X12_findLaws_330 : decode cX12_findLaws 330 = .ok (.iload_n 3, 1) := by decide +kernel
theorem d_X12_findLaws_331 : decode cX12_findLaws 331 = .ok (.iconst 1, 1) := by decide +kernel
theorem d_X12_findLaws_332 : decode cX12_findLaws 332 = .ok (.iload 5, 2) := by decide +kernel
theorem d_X12_findLaws_334 : decode cX12_findLaws 334 = .ok (.iadd, 1) := by decide +kernel
theorem d_X12_findLaws_335 : decode cX12_findLaws 335 = .ok (.invokevirtual 269, 3) := by decide +kernel
theorem d_X12_findLaws_338 : decode cX12_findLaws 338 = .ok (.if_icmp .ne 7, 3) := by decide +kernel
theorem d_X12_findLaws_341 : decode cX12_findLaws 341 = .ok (.iconst 1, 1) := by decide +kernel
theorem d_X12_findLaws_342 : decode cX12_findLaws 342 = .ok (.goto 4, 3) := by decide +kernel
theorem d_X12_findLaws_345 : decode cX12_findLaws 345 = .ok (.iconst 0, 1) := by decide +kernel
theorem d_X12_findLaws_346 : decode cX12_findLaws 346 = .ok (.iadd, 1) := by decide +kernel
theorem d_X12_findLaws_347 : decode cX12_findLaws 347 = .ok (.istore 4, 2) := by decide +kernel
theorem d_X12_findLaws_349 : decode cX12_findLaws 349 = .ok (.iinc 5 1, 3) := by decide +kernel
theorem d_X12_findLaws_352 : decode cX12_findLaws 352 = .ok (.goto (-50), 3) := by decide +kernel
theorem d_X12_findLaws_355 : decode cX12_findLaws 355 = .ok (.aload_n 0, 1) := by decide +kernel
theorem d_X12_findLaws_356 : decode cX12_findLaws 356 = .ok (.dup, 1) := by decide +kernel
theorem d_X12_findLaws_357 : decode cX12_findLaws 357 = .ok (.getfield 272, 3) := by decide +kernel
theorem d_X12_findLaws_360 : decode cX12_findLaws 360 = .ok (.iload 4, 2) := by decide +kernel
theorem d_X12_findLaws_362 : decode cX12_findLaws 362 = .ok (.iadd, 1) := by decide +kernel
theorem d_X12_findLaws_363 : decode cX12_findLaws 363 = .ok (.putfield 272, 3) := by decide +kernel
theorem d_X12_findLaws_366 : decode cX12_findLaws 366 = .ok (.aload_n 0, 1) := by decide +kernel
theorem d_X12_findLaws_367 : decode cX12_findLaws 367 = .ok (.dup, 1) := by decide +kernel
theorem d_X12_findLaws_368 : decode cX12_findLaws 368 = .ok (.getfield 275, 3) := by decide +kernel
theorem d_X12_findLaws_371 : decode cX12_findLaws 371 = .ok (.iload 4, 2) := by decide +kernel
theorem d_X12_findLaws_373 : decode cX12_findLaws 373 = .ok (.aload_n 0, 1) := by decide +kernel
theorem d_X12_findLaws_374 : decode cX12_findLaws 374 = .ok (.iload_n 2, 1) := by decide +kernel
theorem d_X12_findLaws_375 : decode cX12_findLaws 375 = .ok (.iconst 0, 1) := by decide +kernel
theorem d_X12_findLaws_376 : decode cX12_findLaws 376 = .ok (.invokevirtual 98, 3) := by decide +kernel
theorem d_X12_findLaws_379 : decode cX12_findLaws 379 = .ok (.if_icmp .ne 7, 3) := by decide +kernel
theorem d_X12_findLaws_382 : decode cX12_findLaws 382 = .ok (.iconst 1, 1) := by decide +kernel
theorem d_X12_findLaws_383 : decode cX12_findLaws 383 = .ok (.goto 4, 3) := by decide +kernel
theorem d_X12_findLaws_386 : decode cX12_findLaws 386 = .ok (.iconst 0, 1) := by decide +kernel
theorem d_X12_findLaws_387 : decode cX12_findLaws 387 = .ok (.iadd, 1) := by decide +kernel
theorem d_X12_findLaws_388 : decode cX12_findLaws 388 = .ok (.putfield 275, 3) := by decide +kernel
theorem d_X12_findLaws_391 : decode cX12_findLaws 391 = .ok (.iinc 1 1, 3) := by decide +kernel
theorem d_X12_findLaws_394 : decode cX12_findLaws 394 = .ok (.goto (-143), 3) := by decide +kernel
theorem d_X12_findLaws_397 : decode cX12_findLaws 397 = .ok (.return_, 1) := by decide +kernel
set_option maxHeartbeats 4000000 in
set_option maxRecDepth 100000 in
theorem t_X12_findLaws_53 {X : XT_x} {G : GT_g} {z : Mem_m} (C : Cx_ (K_X12_findLaws) X G) (hR : Rx_ X G none) (x0 : Nat) (x1 : Int) (x2 : Int) (x3 : Int) (o_x1 : ok_i x1) (o_x2 : ok_i x2) (o_x3 : ok_i x3) (k_23 : Mem_m → Int → Option Mem_m) (hk_23 : ∀ (M : Mem_m) (x1 : Int) (o_x1 : ok_i x1), k_23 M x1 = some z → V_ (K_X12_findLaws) X G (Fq_ X G (Qv_ G z)) M 23 [(0, .ref (G.1 + x0)), (1, iv_i x1)] []) : ∀ (n : Nat) (M : Mem_m) (x4 : Int) (o_x4 : ok_i x4), f_X12_findLaws_53 G.2.2.2 k_23 x0 x1 x2 x3 n M x4 = some z → V_ (K_X12_findLaws) X G (Fq_ X G (Qv_ G z)) M 53 [(0, .ref (G.1 + x0)), (1, iv_i x1), (2, iv_i x2), (3, iv_i x3), (4, iv_i x4)] [] := by
  intro n
  induction n with
  | zero => intro M x4 o_x4 h; exact absurd h (by simp [f_X12_findLaws_53])
  | succ n ih =>
    intro M x4 o_x4 h
    unfold f_X12_findLaws_53 at h
    refine V_iload (j := 4) C d_X12_findLaws_53 rfl ?_
    refine V_aload_n (j := 0) C d_X12_findLaws_55 rfl rfl ?_
    refine V_iload_n (j := 2) C d_X12_findLaws_56 rfl rfl ?_
    refine V_iconst C d_X12_findLaws_57 ?_
    refine V_callVri (K' := K_X12_of) (a := x0) (ci := 12) (av := [iv_i x2, iv_i 0]) (rest := [iv_i x4]) yi_X12_of (by decide) rfl C (yk_X12_of) l1_X12_98 (by decide) d_X12_findLaws_58 (fun v hv => ct_X12_of x0 x2 0 o_x2 (okc rfl) hv) rfl rfl (Nat.le_of_ble_eq_true rfl) h (fun v1 o1 h => ?_)
    refine V_icmp_ge (tgt := 116) C d_X12_findLaws_61 (by decide) o_x4 o1 h (fun h => ?_) (fun h => ?_)
    · skip
      refine V_aload_n (j := 0) C d_X12_findLaws_64 rfl rfl ?_
      refine V_iload_n (j := 2) C d_X12_findLaws_65 rfl rfl ?_
      refine V_iconst C d_X12_findLaws_66 ?_
      refine V_callVri (K' := K_X12_of) (a := x0) (ci := 12) (av := [iv_i x2, iv_i 0]) (rest := []) yi_X12_of (by decide) rfl C (yk_X12_of) l1_X12_98 (by decide) d_X12_findLaws_67 (fun v hv => ct_X12_of x0 x2 0 o_x2 (okc rfl) hv) rfl rfl (Nat.le_of_ble_eq_true rfl) h (fun v2 o2 h => ?_)
      refine V_aload_n (j := 0) C d_X12_findLaws_70 rfl rfl ?_
      refine V_iload_n (j := 3) C d_X12_findLaws_71 rfl rfl ?_
      refine V_iconst C d_X12_findLaws_72 ?_
      refine V_callVri (K' := K_X12_word) (a := x0) (ci := 12) (av := [iv_i x3, iv_i 0]) (rest := [iv_i v2]) yi_X12_word (by decide) rfl C (yk_X12_word) l1_X12_269 (by decide) d_X12_findLaws_73 (fun v hv => ct_X12_word x0 x3 0 o_x3 (okc rfl) hv) rfl rfl (Nat.le_of_ble_eq_true rfl) h (fun v3 o3 h => ?_)
      refine V_icmp_ne (tgt := 116) C d_X12_findLaws_76 (by decide) o2 o3 h (fun h => ?_) (fun h => ?_)
      · skip
        refine V_aload_n (j := 0) C d_X12_findLaws_79 rfl rfl ?_
        refine V_getR C ck_12 fw_X12_59 d_X12_findLaws_80 h (fun v4 h => ?_)
        refine V_bipush (v := 10) C d_X12_findLaws_83 rfl ?_
        refine V_aload_n (j := 0) C d_X12_findLaws_85 rfl rfl ?_
        refine V_iload_n (j := 2) C d_X12_findLaws_86 rfl rfl ?_
        refine V_iconst C d_X12_findLaws_87 ?_
        refine V_iload (j := 4) C d_X12_findLaws_88 rfl ?_
        refine V_iadd C d_X12_findLaws_90 ?_
        refine V_callVri (K' := K_X12_of) (a := x0) (ci := 12) (av := [iv_i x2, iv_i (wr_i (1 + x4))]) (rest := [iv_i 10, .ref (G.1 + v4)]) yi_X12_of (by decide) rfl C (yk_X12_of) l1_X12_98 (by decide) d_X12_findLaws_91 (fun v hv => ct_X12_of x0 x2 (wr_i (1 + x4)) o_x2 (ok_wr _) hv) rfl rfl (Nat.le_of_ble_eq_true rfl) h (fun v5 o5 h => ?_)
        refine V_imul C d_X12_findLaws_94 ?_
        refine V_aload_n (j := 0) C d_X12_findLaws_95 rfl rfl ?_
        refine V_iload_n (j := 3) C d_X12_findLaws_96 rfl rfl ?_
        refine V_iconst C d_X12_findLaws_97 ?_
        refine V_iload (j := 4) C d_X12_findLaws_98 rfl ?_
        refine V_iadd C d_X12_findLaws_100 ?_
        refine V_callVri (K' := K_X12_word) (a := x0) (ci := 12) (av := [iv_i x3, iv_i (wr_i (1 + x4))]) (rest := [iv_i (wr_i (10 * v5)), .ref (G.1 + v4)]) yi_X12_word (by decide) rfl C (yk_X12_word) l1_X12_269 (by decide) d_X12_findLaws_101 (fun v hv => ct_X12_word x0 x3 (wr_i (1 + x4)) o_x3 (ok_wr _) hv) rfl rfl (Nat.le_of_ble_eq_true rfl) h (fun v6 o6 h => ?_)
        refine V_iadd C d_X12_findLaws_104 ?_
        refine V_dup2 C d_X12_findLaws_105 rfl rfl ?_
        refine V_iald C d_X12_findLaws_106 (ok_wr _) h (fun v7 o7 h => ?_)
        refine V_iconst C d_X12_findLaws_107 ?_
        refine V_iadd C d_X12_findLaws_108 ?_
        refine V_iast C d_X12_findLaws_109 (ok_wr _) (ok_wr _) h (fun M8 h => ?_)
        refine V_iinc (j := 4) (lv' := [(4, iv_i (wr_i (x4 + 1))), (0, .ref (G.1 + x0)), (1, iv_i x1), (2, iv_i x2), (3, iv_i x3)]) C d_X12_findLaws_110 rfl (by decide) rfl ?_
        refine V_goto (tgt := 53) C d_X12_findLaws_113 (by decide) ?_
        refine V_lv [1, 2, 3, 4, 0] rfl (ih M8 (wr_i (x4 + 1)) (ok_wr _) h)
      · skip
        refine V_iinc (j := 1) (lv' := [(1, iv_i (wr_i (x1 + 1))), (0, .ref (G.1 + x0)), (2, iv_i x2), (3, iv_i x3), (4, iv_i x4)]) C d_X12_findLaws_116 rfl (by decide) rfl ?_
        refine V_goto (tgt := 23) C d_X12_findLaws_119 (by decide) ?_
        refine V_lv [1, 0] rfl (hk_23 M (wr_i (x1 + 1)) (ok_wr _) h)
    · skip
      refine V_iinc (j := 1) (lv' := [(1, iv_i (wr_i (x1 + 1))), (0, .ref (G.1 + x0)), (2, iv_i x2), (3, iv_i x3), (4, iv_i x4)]) C d_X12_findLaws_116 rfl (by decide) rfl ?_
      refine V_goto (tgt := 23) C d_X12_findLaws_119 (by decide) ?_
      refine V_lv [1, 0] rfl (hk_23 M (wr_i (x1 + 1)) (ok_wr _) h)
set_option maxHeartbeats 4000000 in
set_option maxRecDepth 100000 in
theorem t_X12_findLaws_139 {X : XT_x} {G : GT_g} {z : Mem_m} (C : Cx_ (K_X12_findLaws) X G) (hR : Rx_ X G none) (x0 : Nat) (x1 : Int) (o_x1 : ok_i x1) (k_124 : Mem_m → Int → Option Mem_m) (hk_124 : ∀ (M : Mem_m) (x1 : Int) (o_x1 : ok_i x1), k_124 M x1 = some z → V_ (K_X12_findLaws) X G (Fq_ X G (Qv_ G z)) M 124 [(0, .ref (G.1 + x0)), (1, iv_i x1)] []) : ∀ (n : Nat) (M : Mem_m) (x2 : Int) (o_x2 : ok_i x2), f_X12_findLaws_139 G.2.2.2 k_124 x0 x1 n M x2 = some z → V_ (K_X12_findLaws) X G (Fq_ X G (Qv_ G z)) M 139 [(0, .ref (G.1 + x0)), (1, iv_i x1), (2, iv_i x2)] [] := by
  intro n
  induction n with
  | zero => intro M x2 o_x2 h; exact absurd h (by simp [f_X12_findLaws_139])
  | succ n ih =>
    intro M x2 o_x2 h
    unfold f_X12_findLaws_139 at h
    refine V_iload_n (j := 2) C d_X12_findLaws_139 rfl rfl ?_
    refine V_bipush (v := 10) C d_X12_findLaws_140 rfl ?_
    refine V_icmp_ge (tgt := 197) C d_X12_findLaws_142 (by decide) o_x2 (okc rfl) h (fun h => ?_) (fun h => ?_)
    · skip
      refine V_aload_n (j := 0) C d_X12_findLaws_145 rfl rfl ?_
      refine V_getR C ck_12 fw_X12_62 d_X12_findLaws_146 h (fun v1 h => ?_)
      refine V_iload_n (j := 1) C d_X12_findLaws_149 rfl rfl ?_
      refine V_aload_n (j := 0) C d_X12_findLaws_150 rfl rfl ?_
      refine V_getR C ck_12 fw_X12_59 d_X12_findLaws_151 h (fun v2 h => ?_)
      refine V_bipush (v := 10) C d_X12_findLaws_154 rfl ?_
      refine V_iload_n (j := 1) C d_X12_findLaws_156 rfl rfl ?_
      refine V_imul C d_X12_findLaws_157 ?_
      refine V_iload_n (j := 2) C d_X12_findLaws_158 rfl rfl ?_
      refine V_iadd C d_X12_findLaws_159 ?_
      refine V_iald C d_X12_findLaws_160 (ok_wr _) h (fun v3 o3 h => ?_)
      refine V_aload_n (j := 0) C d_X12_findLaws_161 rfl rfl ?_
      refine V_getR C ck_12 fw_X12_59 d_X12_findLaws_162 h (fun v4 h => ?_)
      refine V_bipush (v := 10) C d_X12_findLaws_165 rfl ?_
      refine V_iload_n (j := 1) C d_X12_findLaws_167 rfl rfl ?_
      refine V_imul C d_X12_findLaws_168 ?_
      refine V_aload_n (j := 0) C d_X12_findLaws_169 rfl rfl ?_
      refine V_getR C ck_12 fw_X12_62 d_X12_findLaws_170 h (fun v5 h => ?_)
      refine V_iload_n (j := 1) C d_X12_findLaws_173 rfl rfl ?_
      refine V_iald C d_X12_findLaws_174 o_x1 h (fun v6 o6 h => ?_)
      refine V_iadd C d_X12_findLaws_175 ?_
      refine V_iald C d_X12_findLaws_176 (ok_wr _) h (fun v7 o7 h => ?_)
      refine V_icmp_le (tgt := 184) C d_X12_findLaws_177 (by decide) o3 o7 h (fun h => ?_) (fun h => ?_)
      · skip
        refine V_aload_n (j := 0) C d_X12_findLaws_184 rfl rfl ?_
        refine V_getR C ck_12 fw_X12_62 d_X12_findLaws_185 h (fun v8 h => ?_)
        refine V_iload_n (j := 1) C d_X12_findLaws_188 rfl rfl ?_
        refine V_iald C d_X12_findLaws_189 o_x1 h (fun v9 o9 h => ?_)
        refine V_iast C d_X12_findLaws_190 o_x1 o9 h (fun M10 h => ?_)
        refine V_iinc (j := 2) (lv' := [(2, iv_i (wr_i (x2 + 1))), (0, .ref (G.1 + x0)), (1, iv_i x1)]) C d_X12_findLaws_191 rfl (by decide) rfl ?_
        refine V_goto (tgt := 139) C d_X12_findLaws_194 (by decide) ?_
        refine V_lv [1, 2, 0] rfl (ih M10 (wr_i (x2 + 1)) (ok_wr _) h)
      · skip
        refine V_iload_n (j := 2) C d_X12_findLaws_180 rfl rfl ?_
        refine V_goto (tgt := 190) C d_X12_findLaws_181 (by decide) ?_
        refine V_iast C d_X12_findLaws_190 o_x1 o_x2 h (fun M11 h => ?_)
        refine V_iinc (j := 2) (lv' := [(2, iv_i (wr_i (x2 + 1))), (0, .ref (G.1 + x0)), (1, iv_i x1)]) C d_X12_findLaws_191 rfl (by decide) rfl ?_
        refine V_goto (tgt := 139) C d_X12_findLaws_194 (by decide) ?_
        refine V_lv [1, 2, 0] rfl (ih M11 (wr_i (x2 + 1)) (ok_wr _) h)
    · skip
      refine V_aload_n (j := 0) C d_X12_findLaws_197 rfl rfl ?_
      refine V_getR C ck_12 fw_X12_62 d_X12_findLaws_198 h (fun v12 h => ?_)
      refine V_iload_n (j := 1) C d_X12_findLaws_201 rfl rfl ?_
      refine V_aload_n (j := 0) C d_X12_findLaws_202 rfl rfl ?_
      refine V_getR C ck_12 fw_X12_59 d_X12_findLaws_203 h (fun v13 h => ?_)
      refine V_bipush (v := 10) C d_X12_findLaws_206 rfl ?_
      refine V_iload_n (j := 1) C d_X12_findLaws_208 rfl rfl ?_
      refine V_imul C d_X12_findLaws_209 ?_
      refine V_aload_n (j := 0) C d_X12_findLaws_210 rfl rfl ?_
      refine V_getR C ck_12 fw_X12_62 d_X12_findLaws_211 h (fun v14 h => ?_)
      refine V_iload_n (j := 1) C d_X12_findLaws_214 rfl rfl ?_
      refine V_iald C d_X12_findLaws_215 o_x1 h (fun v15 o15 h => ?_)
      refine V_iadd C d_X12_findLaws_216 ?_
      refine V_iald C d_X12_findLaws_217 (ok_wr _) h (fun v16 o16 h => ?_)
      refine V_if_ne (tgt := 226) C d_X12_findLaws_218 (by decide) o16 h (fun h => ?_) (fun h => ?_)
      · skip
        refine V_bipush (v := (-4)) C d_X12_findLaws_221 rfl ?_
        refine V_goto (tgt := 232) C d_X12_findLaws_223 (by decide) ?_
        refine V_iast C d_X12_findLaws_232 o_x1 (okc rfl) h (fun M17 h => ?_)
        refine V_iinc (j := 1) (lv' := [(1, iv_i (wr_i (x1 + 1))), (0, .ref (G.1 + x0)), (2, iv_i x2)]) C d_X12_findLaws_233 rfl (by decide) rfl ?_
        refine V_goto (tgt := 124) C d_X12_findLaws_236 (by decide) ?_
        refine V_lv [1, 0] rfl (hk_124 M17 (wr_i (x1 + 1)) (ok_wr _) h)
      · skip
        refine V_aload_n (j := 0) C d_X12_findLaws_226 rfl rfl ?_
        refine V_getR C ck_12 fw_X12_62 d_X12_findLaws_227 h (fun v18 h => ?_)
        refine V_iload_n (j := 1) C d_X12_findLaws_230 rfl rfl ?_
        refine V_iald C d_X12_findLaws_231 o_x1 h (fun v19 o19 h => ?_)
        refine V_iast C d_X12_findLaws_232 o_x1 o19 h (fun M20 h => ?_)
        refine V_iinc (j := 1) (lv' := [(1, iv_i (wr_i (x1 + 1))), (0, .ref (G.1 + x0)), (2, iv_i x2)]) C d_X12_findLaws_233 rfl (by decide) rfl ?_
        refine V_goto (tgt := 124) C d_X12_findLaws_236 (by decide) ?_
        refine V_lv [1, 0] rfl (hk_124 M20 (wr_i (x1 + 1)) (ok_wr _) h)
set_option maxHeartbeats 4000000 in
set_option maxRecDepth 100000 in
theorem t_X12_findLaws_302 {X : XT_x} {G : GT_g} {z : Mem_m} (C : Cx_ (K_X12_findLaws) X G) (hR : Rx_ X G none) (M : Mem_m) (x0 : Nat) (x1 : Int) (x2 : Int) (x3 : Int) (o_x1 : ok_i x1) (o_x2 : ok_i x2) (o_x3 : ok_i x3) (k_251 : Mem_m → Int → Option Mem_m) (hk_251 : ∀ (M : Mem_m) (x1 : Int) (o_x1 : ok_i x1), k_251 M x1 = some z → V_ (K_X12_findLaws) X G (Fq_ X G (Qv_ G z)) M 251 [(0, .ref (G.1 + x0)), (1, iv_i x1)] []) : ∀ (n : Nat) (x4 : Int) (x5 : Int) (o_x4 : ok_i x4) (o_x5 : ok_i x5), f_X12_findLaws_302 G.2.2.2 k_251 M x0 x1 x2 x3 n x4 x5 = some z → V_ (K_X12_findLaws) X G (Fq_ X G (Qv_ G z)) M 302 [(0, .ref (G.1 + x0)), (1, iv_i x1), (2, iv_i x2), (3, iv_i x3), (4, iv_i x4), (5, iv_i x5)] [] := by
  intro n
  induction n with
  | zero => intro x4 x5 o_x4 o_x5 h; exact absurd h (by simp [f_X12_findLaws_302])
  | succ n ih =>
    intro x4 x5 o_x4 o_x5 h
    unfold f_X12_findLaws_302 at h
    refine V_iload (j := 5) C d_X12_findLaws_302 rfl ?_
    refine V_aload_n (j := 0) C d_X12_findLaws_304 rfl rfl ?_
    refine V_iload_n (j := 2) C d_X12_findLaws_305 rfl rfl ?_
    refine V_iconst C d_X12_findLaws_306 ?_
    refine V_callVri (K' := K_X12_of) (a := x0) (ci := 12) (av := [iv_i x2, iv_i 0]) (rest := [iv_i x5]) yi_X12_of (by decide) rfl C (yk_X12_of) l1_X12_98 (by decide) d_X12_findLaws_307 (fun v hv => ct_X12_of x0 x2 0 o_x2 (okc rfl) hv) rfl rfl (Nat.le_of_ble_eq_true rfl) h (fun v1 o1 h => ?_)
    refine V_icmp_ge (tgt := 355) C d_X12_findLaws_310 (by decide) o_x5 o1 h (fun h => ?_) (fun h => ?_)
    · skip
      refine V_iload (j := 4) C d_X12_findLaws_313 rfl ?_
      refine V_aload_n (j := 0) C d_X12_findLaws_315 rfl rfl ?_
      refine V_getR C ck_12 fw_X12_62 d_X12_findLaws_316 h (fun v2 h => ?_)
      refine V_aload_n (j := 0) C d_X12_findLaws_319 rfl rfl ?_
      refine V_iload_n (j := 2) C d_X12_findLaws_320 rfl rfl ?_
      refine V_iconst C d_X12_findLaws_321 ?_
      refine V_iload (j := 5) C d_X12_findLaws_322 rfl ?_
      refine V_iadd C d_X12_findLaws_324 ?_
      refine V_callVri (K' := K_X12_of) (a := x0) (ci := 12) (av := [iv_i x2, iv_i (wr_i (1 + x5))]) (rest := [.ref (G.1 + v2), iv_i x4]) yi_X12_of (by decide) rfl C (yk_X12_of) l1_X12_98 (by decide) d_X12_findLaws_325 (fun v hv => ct_X12_of x0 x2 (wr_i (1 + x5)) o_x2 (ok_wr _) hv) rfl rfl (Nat.le_of_ble_eq_true rfl) h (fun v3 o3 h => ?_)
      refine V_iald C d_X12_findLaws_328 o3 h (fun v4 o4 h => ?_)
      refine V_aload_n (j := 0) C d_X12_findLaws_329 rfl rfl ?_
      refine V_iload_n (j := 3) C d_X12_findLaws_330 rfl rfl ?_
      refine V_iconst C d_X12_findLaws_331 ?_
      refine V_iload (j := 5) C d_X12_findLaws_332 rfl ?_
      refine V_iadd C d_X12_findLaws_334 ?_
      refine V_callVri (K' := K_X12_word) (a := x0) (ci := 12) (av := [iv_i x3, iv_i (wr_i (1 + x5))]) (rest := [iv_i v4, iv_i x4]) yi_X12_word (by decide) rfl C (yk_X12_word) l1_X12_269 (by decide) d_X12_findLaws_335 (fun v hv => ct_X12_word x0 x3 (wr_i (1 + x5)) o_x3 (ok_wr _) hv) rfl rfl (Nat.le_of_ble_eq_true rfl) h (fun v5 o5 h => ?_)
      refine V_icmp_ne (tgt := 345) C d_X12_findLaws_338 (by decide) o4 o5 h (fun h => ?_) (fun h => ?_)
      · skip
        refine V_iconst C d_X12_findLaws_341 ?_
        refine V_goto (tgt := 346) C d_X12_findLaws_342 (by decide) ?_
        refine V_iadd C d_X12_findLaws_346 ?_
        refine V_istore (lv' := [(4, iv_i (wr_i (x4 + 1))), (0, .ref (G.1 + x0)), (1, iv_i x1), (2, iv_i x2), (3, iv_i x3), (5, iv_i x5)]) C d_X12_findLaws_347 (by decide) rfl ?_
        refine V_iinc (j := 5) (lv' := [(5, iv_i (wr_i (x5 + 1))), (4, iv_i (wr_i (x4 + 1))), (0, .ref (G.1 + x0)), (1, iv_i x1), (2, iv_i x2), (3, iv_i x3)]) C d_X12_findLaws_349 rfl (by decide) rfl ?_
        refine V_goto (tgt := 302) C d_X12_findLaws_352 (by decide) ?_
        refine V_lv [2, 3, 4, 5, 1, 0] rfl (ih (wr_i (x4 + 1)) (wr_i (x5 + 1)) (ok_wr _) (ok_wr _) h)
      · skip
        refine V_iconst C d_X12_findLaws_345 ?_
        refine V_iadd C d_X12_findLaws_346 ?_
        refine V_istore (lv' := [(4, iv_i (wr_i (x4 + 0))), (0, .ref (G.1 + x0)), (1, iv_i x1), (2, iv_i x2), (3, iv_i x3), (5, iv_i x5)]) C d_X12_findLaws_347 (by decide) rfl ?_
        refine V_iinc (j := 5) (lv' := [(5, iv_i (wr_i (x5 + 1))), (4, iv_i (wr_i (x4 + 0))), (0, .ref (G.1 + x0)), (1, iv_i x1), (2, iv_i x2), (3, iv_i x3)]) C d_X12_findLaws_349 rfl (by decide) rfl ?_
        refine V_goto (tgt := 302) C d_X12_findLaws_352 (by decide) ?_
        refine V_lv [2, 3, 4, 5, 1, 0] rfl (ih (wr_i (x4 + 0)) (wr_i (x5 + 1)) (ok_wr _) (ok_wr _) h)
    · skip
      refine V_aload_n (j := 0) C d_X12_findLaws_355 rfl rfl ?_
      refine V_dup C d_X12_findLaws_356 rfl ?_
      refine V_getI C ck_12 fw_X12_272 d_X12_findLaws_357 h (fun v6 o6 h => ?_)
      refine V_iload (j := 4) C d_X12_findLaws_360 rfl ?_
      refine V_iadd C d_X12_findLaws_362 ?_
      refine V_putI C ck_12 fw_X12_272 fp_12_29 d_X12_findLaws_363 (ok_wr _) h (fun M7 h => ?_)
      refine V_aload_n (j := 0) C d_X12_findLaws_366 rfl rfl ?_
      refine V_dup C d_X12_findLaws_367 rfl ?_
      refine V_getI C ck_12 fw_X12_275 d_X12_findLaws_368 h (fun v8 o8 h => ?_)
      refine V_iload (j := 4) C d_X12_findLaws_371 rfl ?_
      refine V_aload_n (j := 0) C d_X12_findLaws_373 rfl rfl ?_
      refine V_iload_n (j := 2) C d_X12_findLaws_374 rfl rfl ?_
      refine V_iconst C d_X12_findLaws_375 ?_
      refine V_callVri (K' := K_X12_of) (a := x0) (ci := 12) (av := [iv_i x2, iv_i 0]) (rest := [iv_i x4, iv_i v8, .ref (G.1 + x0)]) yi_X12_of (by decide) rfl C (yk_X12_of) l1_X12_98 (by decide) d_X12_findLaws_376 (fun v hv => ct_X12_of x0 x2 0 o_x2 (okc rfl) hv) rfl rfl (Nat.le_of_ble_eq_true rfl) h (fun v9 o9 h => ?_)
      refine V_icmp_ne (tgt := 386) C d_X12_findLaws_379 (by decide) o_x4 o9 h (fun h => ?_) (fun h => ?_)
      · skip
        refine V_iconst C d_X12_findLaws_382 ?_
        refine V_goto (tgt := 387) C d_X12_findLaws_383 (by decide) ?_
        refine V_iadd C d_X12_findLaws_387 ?_
        refine V_putI C ck_12 fw_X12_275 fp_12_30 d_X12_findLaws_388 (ok_wr _) h (fun M10 h => ?_)
        refine V_iinc (j := 1) (lv' := [(1, iv_i (wr_i (x1 + 1))), (0, .ref (G.1 + x0)), (2, iv_i x2), (3, iv_i x3), (4, iv_i x4), (5, iv_i x5)]) C d_X12_findLaws_391 rfl (by decide) rfl ?_
        refine V_goto (tgt := 251) C d_X12_findLaws_394 (by decide) ?_
        refine V_lv [1, 0] rfl (hk_251 M10 (wr_i (x1 + 1)) (ok_wr _) h)
      · skip
        refine V_iconst C d_X12_findLaws_386 ?_
        refine V_iadd C d_X12_findLaws_387 ?_
        refine V_putI C ck_12 fw_X12_275 fp_12_30 d_X12_findLaws_388 (ok_wr _) h (fun M11 h => ?_)
        refine V_iinc (j := 1) (lv' := [(1, iv_i (wr_i (x1 + 1))), (0, .ref (G.1 + x0)), (2, iv_i x2), (3, iv_i x3), (4, iv_i x4), (5, iv_i x5)]) C d_X12_findLaws_391 rfl (by decide) rfl ?_
        refine V_goto (tgt := 251) C d_X12_findLaws_394 (by decide) ?_
        refine V_lv [1, 0] rfl (hk_251 M11 (wr_i (x1 + 1)) (ok_wr _) h)
set_option maxHeartbeats 4000000 in
set_option maxRecDepth 100000 in
theorem t_X12_findLaws_251 {X : XT_x} {G : GT_g} {z : Mem_m} (C : Cx_ (K_X12_findLaws) X G) (hR : Rx_ X G none) (x0 : Nat) : ∀ (n : Nat) (M : Mem_m) (x1 : Int) (o_x1 : ok_i x1), f_X12_findLaws_251 G.2.2.2 x0 n M x1 = some z → V_ (K_X12_findLaws) X G (Fq_ X G (Qv_ G z)) M 251 [(0, .ref (G.1 + x0)), (1, iv_i x1)] [] := by
  intro n
  induction n with
  | zero => intro M x1 o_x1 h; exact absurd h (by simp [f_X12_findLaws_251])
  | succ n ih =>
    intro M x1 o_x1 h
    unfold f_X12_findLaws_251 at h
    refine V_iload_n (j := 1) C d_X12_findLaws_251 rfl rfl ?_
    refine V_aload_n (j := 0) C d_X12_findLaws_252 rfl rfl ?_
    refine V_getR C ck_12 fw_X12_9 d_X12_findLaws_253 h (fun v1 h => ?_)
    refine V_sipush (v := 1066) C d_X12_findLaws_256 rfl ?_
    refine V_iald C d_X12_findLaws_259 (okc rfl) h (fun v2 o2 h => ?_)
    refine V_icmp_ge (tgt := 397) C d_X12_findLaws_260 (by decide) o_x1 o2 h (fun h => ?_) (fun h => ?_)
    · skip
      refine V_aload_n (j := 0) C d_X12_findLaws_263 rfl rfl ?_
      refine V_iload_n (j := 1) C d_X12_findLaws_264 rfl rfl ?_
      refine V_bipush (v := 9) C d_X12_findLaws_265 rfl ?_
      refine V_callVri (K' := K_X12_word) (a := x0) (ci := 12) (av := [iv_i x1, iv_i 9]) (rest := []) yi_X12_word (by decide) rfl C (yk_X12_word) l1_X12_269 (by decide) d_X12_findLaws_267 (fun v hv => ct_X12_word x0 x1 9 o_x1 (okc rfl) hv) rfl rfl (Nat.le_of_ble_eq_true rfl) h (fun v3 o3 h => ?_)
      refine V_istore_n (lv' := [(2, iv_i v3), (0, .ref (G.1 + x0)), (1, iv_i x1)]) C d_X12_findLaws_270 rfl (by decide) rfl ?_
      refine V_aload_n (j := 1) C d_X12_findLaws_271 rfl rfl ?_
      refine V_getR C ck_12 fw_X12_56 d_X12_findLaws_272 h (fun v4 h => ?_)
      refine V_iload_n (j := 2) C d_X12_findLaws_275 rfl rfl ?_
      refine V_iald C d_X12_findLaws_276 o_x1 h (fun v5 o5 h => ?_)
      refine V_istore_n (lv' := [(3, iv_i v5), (2, iv_i v3), (0, .ref (G.1 + x0)), (1, iv_i x1)]) C d_X12_findLaws_277 rfl (by decide) rfl ?_
      refine V_aload_n (j := 2) C d_X12_findLaws_278 rfl rfl ?_
      refine V_iload_n (j := 1) C d_X12_findLaws_279 rfl rfl ?_
      refine V_iconst C d_X12_findLaws_280 ?_
      refine V_callVri (K' := K_X12_of) (a := x0) (ci := 12) (av := [iv_i v3, iv_i 0]) (rest := []) yi_X12_of (by decide) rfl C (yk_X12_of) l1_X12_98 (by decide) d_X12_findLaws_281 (fun v hv => ct_X12_of x0 v3 0 o3 (okc rfl) hv) rfl rfl (Nat.le_of_ble_eq_true rfl) h (fun v6 o6 h => ?_)
      refine V_aload_n (j := 2) C d_X12_findLaws_284 rfl rfl ?_
      refine V_iload_n (j := 0) C d_X12_findLaws_285 rfl rfl ?_
      refine V_iconst C d_X12_findLaws_286 ?_
      refine V_callVri (K' := K_X12_word) (a := x0) (ci := 12) (av := [iv_i v5, iv_i 0]) (rest := [iv_i v6]) yi_X12_word (by decide) rfl C (yk_X12_word) l1_X12_269 (by decide) d_X12_findLaws_287 (fun v hv => ct_X12_word x0 v5 0 o5 (okc rfl) hv) rfl rfl (Nat.le_of_ble_eq_true rfl) h (fun v7 o7 h => ?_)
      refine V_icmp_eq (tgt := 296) C d_X12_findLaws_290 (by decide) o6 o7 h (fun h => ?_) (fun h => ?_)
      · skip
        refine V_iconst C d_X12_findLaws_296 ?_
        refine V_istore (lv' := [(4, iv_i 0), (3, iv_i v5), (2, iv_i v3), (0, .ref (G.1 + x0)), (1, iv_i x1)]) C d_X12_findLaws_297 (by decide) rfl ?_
        refine V_iconst C d_X12_findLaws_299 ?_
        refine V_istore (lv' := [(5, iv_i 0), (4, iv_i 0), (3, iv_i v5), (2, iv_i v3), (0, .ref (G.1 + x0)), (1, iv_i x1)]) C d_X12_findLaws_300 (by decide) rfl ?_
        refine V_lv [4, 5, 3, 2, 1, 0] rfl (t_X12_findLaws_302 C hR M x0 x1 v3 v5 o_x1 o3 o5 (fun M x1 => f_X12_findLaws_251 G.2.2.2 x0 n M x1) (fun M x1 o_x1 h9 => ih M x1 o_x1 h9) FU_ 0 0 (okc rfl) (okc rfl) h)
      · skip
        refine V_goto (tgt := 391) C d_X12_findLaws_293 (by decide) ?_
        refine V_iinc (j := 3) (lv' := [(1, iv_i (wr_i (x1 + 1))), (3, iv_i v5), (2, iv_i v3), (0, .ref (G.1 + x0))]) C d_X12_findLaws_391 rfl (by decide) rfl ?_
        refine V_goto (tgt := 251) C d_X12_findLaws_394 (by decide) ?_
        refine V_lv [3, 0] rfl (ih M (wr_i (x1 + 1)) (ok_wr _) h)
    · skip
      exact V_vret C hR d_X12_findLaws_397 (Option.some.inj h)
set_option maxHeartbeats 4000000 in
set_option maxRecDepth 100000 in
theorem t_X12_findLaws_124 {X : XT_x} {G : GT_g} {z : Mem_m} (C : Cx_ (K_X12_findLaws) X G) (hR : Rx_ X G none) (x0 : Nat) : ∀ (n : Nat) (M : Mem_m) (x1 : Int) (o_x1 : ok_i x1), f_X12_findLaws_124 G.2.2.2 x0 n M x1 = some z → V_ (K_X12_findLaws) X G (Fq_ X G (Qv_ G z)) M 124 [(0, .ref (G.1 + x0)), (1, iv_i x1)] [] := by
  intro n
  induction n with
  | zero => intro M x1 o_x1 h; exact absurd h (by simp [f_X12_findLaws_124])
  | succ n ih =>
    intro M x1 o_x1 h
    unfold f_X12_findLaws_124 at h
    refine V_iload_n (j := 1) C d_X12_findLaws_124 rfl rfl ?_
    refine V_bipush (v := 10) C d_X12_findLaws_125 rfl ?_
    refine V_icmp_ge (tgt := 239) C d_X12_findLaws_127 (by decide) o_x1 (okc rfl) h (fun h => ?_) (fun h => ?_)
    · skip
      refine V_aload_n (j := 0) C d_X12_findLaws_130 rfl rfl ?_
      refine V_getR C ck_12 fw_X12_62 d_X12_findLaws_131 h (fun v1 h => ?_)
      refine V_iload_n (j := 1) C d_X12_findLaws_134 rfl rfl ?_
      refine V_iconst C d_X12_findLaws_135 ?_
      refine V_iast C d_X12_findLaws_136 o_x1 (okc rfl) h (fun M2 h => ?_)
      refine V_iconst C d_X12_findLaws_137 ?_
      refine V_istore_n (lv' := [(2, iv_i 1), (0, .ref (G.1 + x0)), (1, iv_i x1)]) C d_X12_findLaws_138 rfl (by decide) rfl ?_
      refine V_lv [1, 2, 0] rfl (t_X12_findLaws_139 C hR x0 x1 o_x1 (fun M x1 => f_X12_findLaws_124 G.2.2.2 x0 n M x1) (fun M x1 o_x1 h9 => ih M x1 o_x1 h9) FU_ M2 1 (okc rfl) h)
    · skip
      refine V_aload_n (j := 0) C d_X12_findLaws_239 rfl rfl ?_
      refine V_iconst C d_X12_findLaws_240 ?_
      refine V_putI C ck_12 fw_X12_272 fp_12_29 d_X12_findLaws_241 (okc rfl) h (fun M3 h => ?_)
      refine V_aload_n (j := 0) C d_X12_findLaws_244 rfl rfl ?_
      refine V_iconst C d_X12_findLaws_245 ?_
      refine V_putI C ck_12 fw_X12_275 fp_12_30 d_X12_findLaws_246 (okc rfl) h (fun M4 h => ?_)
      refine V_iconst C d_X12_findLaws_249 ?_
      refine V_istore_n (lv' := [(1, iv_i 0), (0, .ref (G.1 + x0))]) C d_X12_findLaws_250 rfl (by decide) rfl ?_
      refine V_lv [1, 0] rfl (t_X12_findLaws_251 C hR x0 FU_ M4 0 (okc rfl) h)
set_option maxHeartbeats 4000000 in
set_option maxRecDepth 100000 in
theorem t_X12_findLaws_23 {X : XT_x} {G : GT_g} {z : Mem_m} (C : Cx_ (K_X12_findLaws) X G) (hR : Rx_ X G none) (x0 : Nat) : ∀ (n : Nat) (M : Mem_m) (x1 : Int) (o_x1 : ok_i x1), f_X12_findLaws_23 G.2.2.2 x0 n M x1 = some z → V_ (K_X12_findLaws) X G (Fq_ X G (Qv_ G z)) M 23 [(0, .ref (G.1 + x0)), (1, iv_i x1)] [] := by
  intro n
  induction n with
  | zero => intro M x1 o_x1 h; exact absurd h (by simp [f_X12_findLaws_23])
  | succ n ih =>
    intro M x1 o_x1 h
    unfold f_X12_findLaws_23 at h
    refine V_iload_n (j := 1) C d_X12_findLaws_23 rfl rfl ?_
    refine V_aload_n (j := 0) C d_X12_findLaws_24 rfl rfl ?_
    refine V_getR C ck_12 fw_X12_9 d_X12_findLaws_25 h (fun v1 h => ?_)
    refine V_sipush (v := 1066) C d_X12_findLaws_28 rfl ?_
    refine V_iald C d_X12_findLaws_31 (okc rfl) h (fun v2 o2 h => ?_)
    refine V_icmp_ge (tgt := 122) C d_X12_findLaws_32 (by decide) o_x1 o2 h (fun h => ?_) (fun h => ?_)
    · skip
      refine V_aload_n (j := 0) C d_X12_findLaws_35 rfl rfl ?_
      refine V_iload_n (j := 1) C d_X12_findLaws_36 rfl rfl ?_
      refine V_bipush (v := 9) C d_X12_findLaws_37 rfl ?_
      refine V_callVri (K' := K_X12_word) (a := x0) (ci := 12) (av := [iv_i x1, iv_i 9]) (rest := []) yi_X12_word (by decide) rfl C (yk_X12_word) l1_X12_269 (by decide) d_X12_findLaws_39 (fun v hv => ct_X12_word x0 x1 9 o_x1 (okc rfl) hv) rfl rfl (Nat.le_of_ble_eq_true rfl) h (fun v3 o3 h => ?_)
      refine V_istore_n (lv' := [(2, iv_i v3), (0, .ref (G.1 + x0)), (1, iv_i x1)]) C d_X12_findLaws_42 rfl (by decide) rfl ?_
      refine V_aload_n (j := 1) C d_X12_findLaws_43 rfl rfl ?_
      refine V_getR C ck_12 fw_X12_56 d_X12_findLaws_44 h (fun v4 h => ?_)
      refine V_iload_n (j := 2) C d_X12_findLaws_47 rfl rfl ?_
      refine V_iald C d_X12_findLaws_48 o_x1 h (fun v5 o5 h => ?_)
      refine V_istore_n (lv' := [(3, iv_i v5), (2, iv_i v3), (0, .ref (G.1 + x0)), (1, iv_i x1)]) C d_X12_findLaws_49 rfl (by decide) rfl ?_
      refine V_iconst C d_X12_findLaws_50 ?_
      refine V_istore (lv' := [(4, iv_i 0), (3, iv_i v5), (2, iv_i v3), (0, .ref (G.1 + x0)), (1, iv_i x1)]) C d_X12_findLaws_51 (by decide) rfl ?_
      refine V_lv [3, 4, 2, 1, 0] rfl (t_X12_findLaws_53 C hR x0 x1 v3 v5 o_x1 o3 o5 (fun M x1 => f_X12_findLaws_23 G.2.2.2 x0 n M x1) (fun M x1 o_x1 h9 => ih M x1 o_x1 h9) FU_ M 0 (okc rfl) h)
    · skip
      refine V_iconst C d_X12_findLaws_122 ?_
      refine V_istore_n (lv' := [(1, iv_i 0), (0, .ref (G.1 + x0))]) C d_X12_findLaws_123 rfl (by decide) rfl ?_
      refine V_lv [1, 0] rfl (t_X12_findLaws_124 C hR x0 FU_ M 0 (okc rfl) h)
set_option maxHeartbeats 4000000 in
set_option maxRecDepth 100000 in
theorem t_X12_findLaws_2 {X : XT_x} {G : GT_g} {z : Mem_m} (C : Cx_ (K_X12_findLaws) X G) (hR : Rx_ X G none) (x0 : Nat) : ∀ (n : Nat) (M : Mem_m) (x1 : Int) (o_x1 : ok_i x1), f_X12_findLaws_2 G.2.2.2 x0 n M x1 = some z → V_ (K_X12_findLaws) X G (Fq_ X G (Qv_ G z)) M 2 [(0, .ref (G.1 + x0)), (1, iv_i x1)] [] := by
  intro n
  induction n with
  | zero => intro M x1 o_x1 h; exact absurd h (by simp [f_X12_findLaws_2])
  | succ n ih =>
    intro M x1 o_x1 h
    unfold f_X12_findLaws_2 at h
    refine V_iload_n (j := 1) C d_X12_findLaws_2 rfl rfl ?_
    refine V_bipush (v := 100) C d_X12_findLaws_3 rfl ?_
    refine V_icmp_ge (tgt := 21) C d_X12_findLaws_5 (by decide) o_x1 (okc rfl) h (fun h => ?_) (fun h => ?_)
    · skip
      refine V_aload_n (j := 0) C d_X12_findLaws_8 rfl rfl ?_
      refine V_getR C ck_12 fw_X12_59 d_X12_findLaws_9 h (fun v1 h => ?_)
      refine V_iload_n (j := 1) C d_X12_findLaws_12 rfl rfl ?_
      refine V_iconst C d_X12_findLaws_13 ?_
      refine V_iast C d_X12_findLaws_14 o_x1 (okc rfl) h (fun M2 h => ?_)
      refine V_iinc (j := 1) (lv' := [(1, iv_i (wr_i (x1 + 1))), (0, .ref (G.1 + x0))]) C d_X12_findLaws_15 rfl (by decide) rfl ?_
      refine V_goto (tgt := 2) C d_X12_findLaws_18 (by decide) ?_
      refine V_lv [1, 0] rfl (ih M2 (wr_i (x1 + 1)) (ok_wr _) h)
    · skip
      refine V_iconst C d_X12_findLaws_21 ?_
      refine V_istore_n (lv' := [(1, iv_i 0), (0, .ref (G.1 + x0))]) C d_X12_findLaws_22 rfl (by decide) rfl ?_
      refine V_lv [1, 0] rfl (t_X12_findLaws_23 C hR x0 FU_ M 0 (okc rfl) h)
set_option maxHeartbeats 4000000 in
set_option maxRecDepth 100000 in
theorem t_X12_findLaws {X : XT_x} {G : GT_g} {M : Mem_m} {z : Mem_m} (C : Cx_ (K_X12_findLaws) X G) (hR : Rx_ X G none) (x0 : Nat)  (h : f_X12_findLaws G.2.2.2 M x0 = some z) : V_ (K_X12_findLaws) X G (Fq_ X G (Qv_ G z)) M 0 [(0, .ref (G.1 + x0))] [] := by
  unfold f_X12_findLaws at h
  refine V_iconst C d_X12_findLaws_0 ?_
  refine V_istore_n (lv' := [(1, iv_i 0), (0, .ref (G.1 + x0))]) C d_X12_findLaws_1 rfl (by decide) rfl ?_
  refine V_lv [1, 0] rfl (t_X12_findLaws_2 C hR x0 FU_ M 0 (okc rfl) h)
set_option maxHeartbeats 4000000 in
set_option maxRecDepth 100000 in
theorem ct_X12_findLaws {l : Launch} {G : GT_g} {M : Mem_m} (x0 : Nat)  {z : Mem_m} (h : f_X12_findLaws G.2.2.2 M x0 = some z) : MV_ l yX12_findLaws K_X12_findLaws none G M [.ref (G.1 + x0)] z :=
  met_of (by decide +kernel) rfl (Nat.le_of_ble_eq_true rfl) (fun X hl C hR => by subst hl; exact t_X12_findLaws C hR x0  h)
theorem d_X12_asItIs_0 : decode cX12_asItIs 0 = .ok (.iconst 0, 1) := by decide +kernel
theorem d_X12_asItIs_1 : decode cX12_asItIs 1 = .ok (.istore_n 1, 1) := by decide +kernel
theorem d_X12_asItIs_2 : decode cX12_asItIs 2 = .ok (.iload_n 1, 1) := by decide +kernel
theorem d_X12_asItIs_3 : decode cX12_asItIs 3 = .ok (.aload_n 0, 1) := by decide +kernel
theorem d_X12_asItIs_4 : decode cX12_asItIs 4 = .ok (.getfield 9, 3) := by decide +kernel
theorem d_X12_asItIs_7 : decode cX12_asItIs 7 = .ok (.sipush 1066, 3) := by decide +kernel
theorem d_X12_asItIs_10 : decode cX12_asItIs 10 = .ok (.iaload, 1) := by decide +kernel
theorem d_X12_asItIs_11 : decode cX12_asItIs 11 = .ok (.if_icmp .ge 16, 3) := by decide +kernel
theorem d_X12_asItIs_14 : decode cX12_asItIs 14 = .ok (.aload_n 0, 1) := by decide +kernel
theorem d_X12_asItIs_15 : decode cX12_asItIs 15 = .ok (.getfield 56, 3) := by decide +kernel
theorem d_X12_asItIs_18 : decode cX12_asItIs 18 = .ok (.iload_n 1, 1) := by decide +kernel
theorem d_X12_asItIs_19 : decode cX12_asItIs 19 = .ok (.iload_n 1, 1) := by decide +kernel
theorem d_X12_asItIs_20 : decode cX12_asItIs 20 = .ok (.iastore, 1) := by decide +kernel
theorem d_X12_asItIs_21 : decode cX12_asItIs 21 = .ok (.iinc 1 1, 3) := by decide +kernel
theorem d_X12_asItIs_24 : decode cX12_asItIs 24 = .ok (.goto (-22), 3) := by decide +kernel
theorem d_X12_asItIs_27 : decode cX12_asItIs 27 = .ok (.aload_n 0, 1) := by decide +kernel
theorem d_X12_asItIs_28 : decode cX12_asItIs 28 = .ok (.invokevirtual 278, 3) := by decide +kernel
theorem d_X12_asItIs_31 : decode cX12_asItIs 31 = .ok (.return_, 1) := by decide +kernel
set_option maxHeartbeats 4000000 in
set_option maxRecDepth 100000 in
theorem t_X12_asItIs_2 {X : XT_x} {G : GT_g} {z : Mem_m} (C : Cx_ (K_X12_asItIs) X G) (hR : Rx_ X G none) (x0 : Nat) : ∀ (n : Nat) (M : Mem_m) (x1 : Int) (o_x1 : ok_i x1), f_X12_asItIs_2 G.2.2.2 x0 n M x1 = some z → V_ (K_X12_asItIs) X G (Fq_ X G (Qv_ G z)) M 2 [(0, .ref (G.1 + x0)), (1, iv_i x1)] [] := by
  intro n
  induction n with
  | zero => intro M x1 o_x1 h; exact absurd h (by simp [f_X12_asItIs_2])
  | succ n ih =>
    intro M x1 o_x1 h
    unfold f_X12_asItIs_2 at h
    refine V_iload_n (j := 1) C d_X12_asItIs_2 rfl rfl ?_
    refine V_aload_n (j := 0) C d_X12_asItIs_3 rfl rfl ?_
    refine V_getR C ck_12 fw_X12_9 d_X12_asItIs_4 h (fun v1 h => ?_)
    refine V_sipush (v := 1066) C d_X12_asItIs_7 rfl ?_
    refine V_iald C d_X12_asItIs_10 (okc rfl) h (fun v2 o2 h => ?_)
    refine V_icmp_ge (tgt := 27) C d_X12_asItIs_11 (by decide) o_x1 o2 h (fun h => ?_) (fun h => ?_)
    · skip
      refine V_aload_n (j := 0) C d_X12_asItIs_14 rfl rfl ?_
      refine V_getR C ck_12 fw_X12_56 d_X12_asItIs_15 h (fun v3 h => ?_)
      refine V_iload_n (j := 1) C d_X12_asItIs_18 rfl rfl ?_
      refine V_iload_n (j := 1) C d_X12_asItIs_19 rfl rfl ?_
      refine V_iast C d_X12_asItIs_20 o_x1 o_x1 h (fun M4 h => ?_)
      refine V_iinc (j := 1) (lv' := [(1, iv_i (wr_i (x1 + 1))), (0, .ref (G.1 + x0))]) C d_X12_asItIs_21 rfl (by decide) rfl ?_
      refine V_goto (tgt := 2) C d_X12_asItIs_24 (by decide) ?_
      refine V_lv [1, 0] rfl (ih M4 (wr_i (x1 + 1)) (ok_wr _) h)
    · skip
      refine V_aload_n (j := 0) C d_X12_asItIs_27 rfl rfl ?_
      refine V_callVwv (K' := K_X12_findLaws) (a := x0) (ci := 12) (av := []) (rest := []) yi_X12_findLaws (by decide) rfl C (yk_X12_findLaws) l1_X12_278 (by decide) d_X12_asItIs_28 (fun v hv => ct_X12_findLaws x0 hv) rfl rfl (Nat.le_of_ble_eq_true rfl) h (fun M5 h => ?_)
      exact V_vret C hR d_X12_asItIs_31 (Option.some.inj h)
set_option maxHeartbeats 4000000 in
set_option maxRecDepth 100000 in
theorem t_X12_asItIs {X : XT_x} {G : GT_g} {M : Mem_m} {z : Mem_m} (C : Cx_ (K_X12_asItIs) X G) (hR : Rx_ X G none) (x0 : Nat)  (h : f_X12_asItIs G.2.2.2 M x0 = some z) : V_ (K_X12_asItIs) X G (Fq_ X G (Qv_ G z)) M 0 [(0, .ref (G.1 + x0))] [] := by
  unfold f_X12_asItIs at h
  refine V_iconst C d_X12_asItIs_0 ?_
  refine V_istore_n (lv' := [(1, iv_i 0), (0, .ref (G.1 + x0))]) C d_X12_asItIs_1 rfl (by decide) rfl ?_
  refine V_lv [1, 0] rfl (t_X12_asItIs_2 C hR x0 FU_ M 0 (okc rfl) h)
set_option maxHeartbeats 4000000 in
set_option maxRecDepth 100000 in
theorem ct_X12_asItIs {l : Launch} {G : GT_g} {M : Mem_m} (x0 : Nat)  {z : Mem_m} (h : f_X12_asItIs G.2.2.2 M x0 = some z) : MV_ l yX12_asItIs K_X12_asItIs none G M [.ref (G.1 + x0)] z :=
  met_of (by decide +kernel) rfl (Nat.le_of_ble_eq_true rfl) (fun X hl C hR => by subst hl; exact t_X12_asItIs C hR x0  h)
theorem d_X12_law_0 : decode cX12_law 0 = .ok (.iload_n 1, 1) := by decide +kernel
theorem d_X12_law_1 : decode cX12_law 1 = .ok (.i2l, 1) := by decide +kernel
theorem d_X12_law_2 : decode cX12_law 2 = .ok (.lconst 0, 1) := by decide +kernel
theorem d_X12_law_3 : decode cX12_law 3 = .ok (.ldc2_w 83, 3) := by decide +kernel
theorem d_X12_law_6 : decode cX12_law 6 = .ok (.invokestatic 69, 3) := by decide +kernel
theorem d_X12_law_9 : decode cX12_law 9 = .ok (.ifCond .ne 5, 3) := by decide +kernel
theorem d_X12_law_12 : decode cX12_law 12 = .ok (.iconst (-1), 1) := by decide +kernel
theorem d_X12_law_13 : decode cX12_law 13 = .ok (.ireturn, 1) := by decide +kernel
theorem d_X12_law_14 : decode cX12_law 14 = .ok (.aload_n 0, 1) := by decide +kernel
theorem d_X12_law_15 : decode cX12_law 15 = .ok (.invokevirtual 281, 3) := by decide +kernel
theorem d_X12_law_18 : decode cX12_law 18 = .ok (.aload_n 0, 1) := by decide +kernel
theorem d_X12_law_19 : decode cX12_law 19 = .ok (.getfield 62, 3) := by decide +kernel
theorem d_X12_law_22 : decode cX12_law 22 = .ok (.iload_n 1, 1) := by decide +kernel
theorem d_X12_law_23 : decode cX12_law 23 = .ok (.iaload, 1) := by decide +kernel
theorem d_X12_law_24 : decode cX12_law 24 = .ok (.ireturn, 1) := by decide +kernel
set_option maxHeartbeats 4000000 in
set_option maxRecDepth 100000 in
theorem t_X12_law {X : XT_x} {G : GT_g} {M : Mem_m} {z : (Mem_m × Int)} (C : Cx_ (K_X12_law) X G) (hR : Rx_ X G (some .int)) (x0 : Nat) (x1 : Int) (o_x1 : ok_i x1) (h : f_X12_law G.2.2.2 M x0 x1 = some z) : V_ (K_X12_law) X G (Fq_ X G (Qi_ G z.1 z.2)) M 0 [(0, .ref (G.1 + x0)), (1, iv_i x1)] [] := by
  unfold f_X12_law at h
  refine V_iload_n (j := 1) C d_X12_law_0 rfl rfl ?_
  refine V_i2l C d_X12_law_1 o_x1 ?_
  refine V_lconst0 C d_X12_law_2 ?_
  refine V_ldc2 (v := 9) C d_X12_law_3 cl_X12_83 ?_
  refine V_callSri (K' := K_X12_isIn) (av := [jv_i x1, jv_i 0, jv_i 9]) (rest := []) ys_X12_isIn C (yk_X12_isIn) l1_X12_69 (by decide) d_X12_law_6 (fun v hv => ct_X12_isIn x1 0 9 o_x1 (okc rfl) (okc rfl) hv) rfl rfl (Nat.le_of_ble_eq_true rfl) h (fun v1 o1 h => ?_)
  refine V_if_ne (tgt := 14) C d_X12_law_9 (by decide) o1 h (fun h => ?_) (fun h => ?_)
  · skip
    refine V_iconst C d_X12_law_12 ?_
    exact V_iret_w C hR d_X12_law_13 (okc rfl) h
  · skip
    refine V_aload_n (j := 0) C d_X12_law_14 rfl rfl ?_
    refine V_callVwv (K' := K_X12_asItIs) (a := x0) (ci := 12) (av := []) (rest := []) yi_X12_asItIs (by decide) rfl C (yk_X12_asItIs) l1_X12_281 (by decide) d_X12_law_15 (fun v hv => ct_X12_asItIs x0 hv) rfl rfl (Nat.le_of_ble_eq_true rfl) h (fun M2 h => ?_)
    refine V_aload_n (j := 0) C d_X12_law_18 rfl rfl ?_
    refine V_getR C ck_12 fw_X12_62 d_X12_law_19 h (fun v3 h => ?_)
    refine V_iload_n (j := 1) C d_X12_law_22 rfl rfl ?_
    refine V_iald C d_X12_law_23 o_x1 h (fun v4 o4 h => ?_)
    exact V_iret_w C hR d_X12_law_24 o4 h
set_option maxHeartbeats 4000000 in
set_option maxRecDepth 100000 in
theorem ct_X12_law {l : Launch} {G : GT_g} {M : Mem_m} (x0 : Nat) (x1 : Int) (o_x1 : ok_i x1) {z : (Mem_m × Int)} (h : f_X12_law G.2.2.2 M x0 x1 = some z) : MI_ l yX12_law K_X12_law (some .int) G M [.ref (G.1 + x0), iv_i x1] z.1 z.2 :=
  met_of (by decide +kernel) rfl (Nat.le_of_ble_eq_true rfl) (fun X hl C hR => by subst hl; exact t_X12_law C hR x0 x1 o_x1 h)
