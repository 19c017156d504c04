theorem d_X12_copy_0 : decode cX12_copy 0 = .ok (.iload_n 1, 1) := by decide +kernel
theorem d_X12_copy_1 : decode cX12_copy 1 = .ok (.invokestatic 75, 3) := by decide +kernel
theorem d_X12_copy_4 : decode cX12_copy 4 = .ok (.ifCond .eq 10, 3) := by decide +kernel
theorem d_X12_copy_7 : decode cX12_copy 7 = .ok (.iload_n 3, 1) := by decide +kernel
theorem d_X12_copy_8 : decode cX12_copy 8 = .ok (.invokestatic 75, 3) := by decide +kernel
theorem d_X12_copy_11 : decode cX12_copy 11 = .ok (.ifCond .ne 5, 3) := by decide +kernel
theorem d_X12_copy_14 : decode cX12_copy 14 = .ok (.iconst (-1), 1) := by decide +kernel
theorem d_X12_copy_15 : decode cX12_copy 15 = .ok (.ireturn, 1) := by decide +kernel
theorem d_X12_copy_16 : decode cX12_copy 16 = .ok (.aload_n 0, 1) := by decide +kernel
theorem d_X12_copy_17 : decode cX12_copy 17 = .ok (.getfield 16, 3) := by decide +kernel
theorem d_X12_copy_20 : decode cX12_copy 20 = .ok (.iload_n 1, 1) := by decide +kernel
theorem d_X12_copy_21 : decode cX12_copy 21 = .ok (.iaload, 1) := by decide +kernel
theorem d_X12_copy_22 : decode cX12_copy 22 = .ok (.ifCond .eq 12, 3) := by decide +kernel
theorem d_X12_copy_25 : decode cX12_copy 25 = .ok (.aload_n 0, 1) := by decide +kernel
theorem d_X12_copy_26 : decode cX12_copy 26 = .ok (.getfield 16, 3) := by decide +kernel
theorem d_X12_copy_29 : decode cX12_copy 29 = .ok (.iload_n 3, 1) := by decide +kernel
theorem d_X12_copy_30 : decode cX12_copy 30 = .ok (.iaload, 1) := by decide +kernel
theorem d_X12_copy_31 : decode cX12_copy 31 = .ok (.ifCond .ne 6, 3) := by decide +kernel
theorem d_X12_copy_34 : decode cX12_copy 34 = .ok (.bipush (-11), 2) := by decide +kernel
theorem d_X12_copy_36 : decode cX12_copy 36 = .ok (.ireturn, 1) := by decide +kernel
theorem d_X12_copy_37 : decode cX12_copy 37 = .ok (.aload_n 0, 1) := by decide +kernel
theorem d_X12_copy_38 : decode cX12_copy 38 = .ok (.getfield 16, 3) := by decide +kernel
theorem d_X12_copy_41 : decode cX12_copy 41 = .ok (.iload_n 1, 1) := by decide +kernel
theorem d_X12_copy_42 : decode cX12_copy 42 = .ok (.iaload, 1) := by decide +kernel
theorem d_X12_copy_43 : decode cX12_copy 43 = .ok (.iconst 2, 1) := by decide +kernel
theorem d_X12_copy_44 : decode cX12_copy 44 = .ok (.if_icmp .ne 28, 3) := by decide +kernel
theorem d_X12_copy_47 : decode cX12_copy 47 = .ok (.aload_n 0, 1) := by decide +kernel
theorem d_X12_copy_48 : decode cX12_copy 48 = .ok (.getfield 16, 3) := by decide +kernel
theorem d_X12_copy_51 : decode cX12_copy 51 = .ok (.iload_n 3, 1) := by decide +kernel
theorem d_X12_copy_52 : decode cX12_copy 52 = .ok (.iaload, 1) := by decide +kernel
theorem d_X12_copy_53 : decode cX12_copy 53 = .ok (.iconst 2, 1) := by decide +kernel
theorem d_X12_copy_54 : decode cX12_copy 54 = .ok (.if_icmp .ne 18, 3) := by decide +kernel
theorem d_X12_copy_57 : decode cX12_copy 57 = .ok (.aload_n 0, 1) := by decide +kernel
theorem d_X12_copy_58 : decode cX12_copy 58 = .ok (.getfield 19, 3) := by decide +kernel
theorem d_X12_copy_61 : decode cX12_copy 61 = .ok (.iload_n 1, 1) := by decide +kernel
theorem d_X12_copy_62 : decode cX12_copy 62 = .ok (.iaload, 1) := by decide +kernel
theorem d_X12_copy_63 : decode cX12_copy 63 = .ok (.aload_n 0, 1) := by decide +kernel
theorem d_X12_copy_64 : decode cX12_copy 64 = .ok (.getfield 19, 3) := by decide +kernel
theorem d_X12_copy_67 : decode cX12_copy 67 = .ok (.iload_n 3, 1) := by decide +kernel
theorem d_X12_copy_68 : decode cX12_copy 68 = .ok (.iaload, 1) := by decide +kernel
theorem d_X12_copy_69 : decode cX12_copy 69 = .ok (.if_icmp .eq 6, 3) := by decide +kernel
theorem d_X12_copy_72 : decode cX12_copy 72 = .ok (.bipush (-12), 2) := by decide +kernel
theorem d_X12_copy_74 : decode cX12_copy 74 = .ok (.ireturn, 1) := by decide +kernel
theorem d_X12_copy_75 : decode cX12_copy 75 = .ok (.iload 5, 2) := by decide +kernel
theorem d_X12_copy_77 : decode cX12_copy 77 = .ok (.ifCond .lt 39, 3) := by decide +kernel
theorem d_X12_copy_80 : decode cX12_copy 80 = .ok (.iload_n 2, 1) := by decide +kernel
theorem d_X12_copy_81 : decode cX12_copy 81 = .ok (.ifCond .lt 35, 3) := by decide +kernel
theorem d_X12_copy_84 : decode cX12_copy 84 = .ok (.iload 4, 2) := by decide +kernel
theorem d_X12_copy_86 : decode cX12_copy 86 = .ok (.ifCond .lt 30, 3) := by decide +kernel
theorem d_X12_copy_89 : decode cX12_copy 89 = .ok (.iload 5, 2) := by decide +kernel
theorem d_X12_copy_91 : decode cX12_copy 91 = .ok (.aload_n 0, 1) := by decide +kernel
theorem d_X12_copy_92 : decode cX12_copy 92 = .ok (.getfield 22, 3) := by decide +kernel
theorem d_X12_copy_95 : decode cX12_copy 95 = .ok (.iload_n 1, 1) := by decide +kernel
theorem d_X12_copy_96 : decode cX12_copy 96 = .ok (.iaload, 1) := by decide +kernel
theorem d_X12_copy_97 : decode cX12_copy 97 = .ok (.iload_n 2, 1) := by decide +kernel
theorem d_X12_copy_98 : decode cX12_copy 98 = .ok (.isub, 1) := by decide +kernel
theorem d_X12_copy_99 : decode cX12_copy 99 = .ok (.if_icmp .gt 17, 3) := by decide +kernel
theorem d_X12_copy_102 : decode cX12_copy 102 = .ok (.iload 5, 2) := by decide +kernel
theorem d_X12_copy_104 : decode cX12_copy 104 = .ok (.aload_n 0, 1) := by decide +kernel
theorem d_X12_copy_105 : decode cX12_copy 105 = .ok (.getfield 22, 3) := by decide +kernel
theorem d_X12_copy_108 : decode cX12_copy 108 = .ok (.iload_n 3, 1) := by decide +kernel
theorem d_X12_copy_109 : decode cX12_copy 109 = .ok (.iaload, 1) := by decide +kernel
theorem d_X12_copy_110 : decode cX12_copy 110 = .ok (.iload 4, 2) := by decide +kernel
theorem d_X12_copy_112 : decode cX12_copy 112 = .ok (.isub, 1) := by decide +kernel
theorem d_X12_copy_113 : decode cX12_copy 113 = .ok (.if_icmp .le 6, 3) := by decide +kernel
theorem d_X12_copy_116 : decode cX12_copy 116 = .ok (.bipush (-13), 2) := by decide +kernel
theorem d_X12_copy_118 : decode cX12_copy 118 = .ok (.ireturn, 1) := by decide +kernel
theorem d_X12_copy_119 : decode cX12_copy 119 = .ok (.iconst 0, 1) := by decide +kernel
theorem d_X12_copy_120 : decode cX12_copy 120 = .ok (.istore 6, 2) := by decide +kernel
theorem d_X12_copy_122 : decode cX12_copy 122 = .ok (.iload 6, 2) := by decide +kernel
theorem d_X12_copy_124 : decode cX12_copy 124 = .ok (.iload 5, 2) := by decide +kernel
theorem d_X12_copy_126 : decode cX12_copy 126 = .ok (.if_icmp .ge 58, 3) := by decide +kernel
theorem d_X12_copy_129 : decode cX12_copy 129 = .ok (.iload_n 2, 1) := by decide +kernel
theorem d_X12_copy_130 : decode cX12_copy 130 = .ok (.iload 4, 2) := by decide +kernel
theorem d_X12_copy_132 : decode cX12_copy 132 = .ok (.if_icmp .le 8, 3) := by decide +kernel
theorem d_X12_copy_135 : decode cX12_copy 135 = .ok (.iload 6, 2) := by decide +kernel
theorem d_X12_copy_137 : decode cX12_copy 137 = .ok (.goto 10, 3) := by decide +kernel
theorem d_X12_copy_140 : decode cX12_copy 140 = .ok (.iload 5, 2) := by decide +kernel
theorem d_X12_copy_142 : decode cX12_copy 142 = .ok (.iconst 1, 1) := by decide +kernel
theorem d_X12_copy_143 : decode cX12_copy 143 = .ok (.isub, 1) := by decide +kernel
theorem d_X12_copy_144 : decode cX12_copy 144 = .ok (.iload 6, 2) := by decide +kernel
theorem d_X12_copy_146 : decode cX12_copy 146 = .ok (.isub, 1) := by decide +kernel
theorem d_X12_copy_147 : decode cX12_copy 147 = .ok (.istore 7, 2) := by decide +kernel
theorem d_X12_copy_149 : decode cX12_copy 149 = .ok (.aload_n 0, 1) := by decide +kernel
theorem d_X12_copy_150 : decode cX12_copy 150 = .ok (.getfield 25, 3) := by decide +kernel
theorem d_X12_copy_153 : decode cX12_copy 153 = .ok (.bipush 80, 2) := by decide +kernel
theorem d_X12_copy_155 : decode cX12_copy 155 = .ok (.iload_n 3, 1) := by decide +kernel
theorem d_X12_copy_156 : decode cX12_copy 156 = .ok (.imul, 1) := by decide +kernel
theorem d_X12_copy_157 : decode cX12_copy 157 = .ok (.iload 4, 2) := by decide +kernel
theorem d_X12_copy_159 : decode cX12_copy 159 = .ok (.iadd, 1) := by decide +kernel
theorem d_X12_copy_160 : decode cX12_copy 160 = .ok (.iload 7, 2) := by decide +kernel
theorem d_X12_copy_162 : decode cX12_copy 162 = .ok (.iadd, 1) := by decide +kernel
theorem d_X12_copy_163 : decode cX12_copy 163 = .ok (.aload_n 0, 1) := by decide +kernel
theorem d_X12_copy_164 : decode cX12_copy 164 = .ok (.getfield 25, 3) := by decide +kernel
theorem d_X12_copy_167 : decode cX12_copy 167 = .ok (.bipush 80, 2) := by decide +kernel
theorem d_X12_copy_169 : decode cX12_copy 169 = .ok (.iload_n 1, 1) := by decide +kernel
theorem d_X12_copy_170 : decode cX12_copy 170 = .ok (.imul, 1) := by decide +kernel
theorem d_X12_copy_171 : decode cX12_copy 171 = .ok (.iload_n 2, 1) := by decide +kernel
theorem d_X12_copy_172 : decode cX12_copy 172 = .ok (.iadd, 1) := by decide +kernel
theorem d_X12_copy_173 : decode cX12_copy 173 = .ok (.iload 7, 2) := by decide +kernel
theorem d_X12_copy_175 : decode cX12_copy 175 = .ok (.iadd, 1) := by decide +kernel
theorem d_X12_copy_176 : decode cX12_copy 176 = .ok (.iaload, 1) := by decide +kernel
theorem d_X12_copy_177 : decode cX12_copy 177 = .ok (.iastore, 1) := by decide +kernel
theorem d_X12_copy_178 : decode cX12_copy 178 = .ok (.iinc 6 1, 3) := by decide +kernel
theorem d_X12_copy_181 : decode cX12_copy 181 = .ok (.goto (-59), 3) := by decide +kernel
theorem d_X12_copy_184 : decode cX12_copy 184 = .ok (.iload 5, 2) := by decide +kernel
theorem d_X12_copy_186 : decode cX12_copy 186 = .ok (.ireturn, 1) := by decide +kernel
set_option maxHeartbeats 4000000 in
set_option maxRecDepth 100000 in
theorem t_X12_copy_147 {X : XT_x} {G : GT_g} {z : (Mem_m × Int)} (C : Cx_ (K_X12_copy) X G) (hR : Rx_ X G (some .int)) (M : Mem_m) (x0 : Nat) (x1 : Int) (x2 : Int) (x3 : Int) (x4 : Int) (x5 : Int) (x6 : Int) (s0 : Int) (o_x1 : ok_i x1) (o_x2 : ok_i x2) (o_x3 : ok_i x3) (o_x4 : ok_i x4) (o_x5 : ok_i x5) (o_x6 : ok_i x6) (o_s0 : ok_i s0) (k_122 : Mem_m → Int → Option (Mem_m × Int)) (hk_122 : ∀ (M : Mem_m) (x6 : Int) (o_x6 : ok_i x6), k_122 M x6 = some z → V_ (K_X12_copy) X G (Fq_ X G (Qi_ G z.1 z.2)) M 122 [(0, .ref (G.1 + x0)), (1, iv_i x1), (2, iv_i x2), (3, iv_i x3), (4, iv_i x4), (5, iv_i x5), (6, iv_i x6)] []) (h : f_X12_copy_147 G.2.2.2 k_122 M x0 x1 x2 x3 x4 x5 x6 s0 = some z) : V_ (K_X12_copy) X G (Fq_ X G (Qi_ G z.1 z.2)) M 147 [(0, .ref (G.1 + x0)), (1, iv_i x1), (2, iv_i x2), (3, iv_i x3), (4, iv_i x4), (5, iv_i x5), (6, iv_i x6)] [iv_i s0] := by
  unfold f_X12_copy_147 at h
  refine V_istore (lv' := [(7, iv_i s0), (0, .ref (G.1 + x0)), (1, iv_i x1), (2, iv_i x2), (3, iv_i x3), (4, iv_i x4), (5, iv_i x5), (6, iv_i x6)]) C d_X12_copy_147 (by decide) rfl ?_
  refine V_aload_n (j := 1) C d_X12_copy_149 rfl rfl ?_
  refine V_getR C ck_12 fw_X12_25 d_X12_copy_150 h (fun v1 h => ?_)
  refine V_bipush (v := 80) C d_X12_copy_153 rfl ?_
  refine V_iload_n (j := 4) C d_X12_copy_155 rfl rfl ?_
  refine V_imul C d_X12_copy_156 ?_
  refine V_iload (j := 5) C d_X12_copy_157 rfl ?_
  refine V_iadd C d_X12_copy_159 ?_
  refine V_iload (j := 0) C d_X12_copy_160 rfl ?_
  refine V_iadd C d_X12_copy_162 ?_
  refine V_aload_n (j := 1) C d_X12_copy_163 rfl rfl ?_
  refine V_getR C ck_12 fw_X12_25 d_X12_copy_164 h (fun v2 h => ?_)
  refine V_bipush (v := 80) C d_X12_copy_167 rfl ?_
  refine V_iload_n (j := 2) C d_X12_copy_169 rfl rfl ?_
  refine V_imul C d_X12_copy_170 ?_
  refine V_iload_n (j := 3) C d_X12_copy_171 rfl rfl ?_
  refine V_iadd C d_X12_copy_172 ?_
  refine V_iload (j := 0) C d_X12_copy_173 rfl ?_
  refine V_iadd C d_X12_copy_175 ?_
  refine V_iald C d_X12_copy_176 (ok_wr _) h (fun v3 o3 h => ?_)
  refine V_iast C d_X12_copy_177 (ok_wr _) o3 h (fun M4 h => ?_)
  refine V_iinc (j := 7) (lv' := [(6, iv_i (wr_i (x6 + 1))), (7, iv_i s0), (0, .ref (G.1 + x0)), (1, iv_i x1), (2, iv_i x2), (3, iv_i x3), (4, iv_i x4), (5, iv_i x5)]) C d_X12_copy_178 rfl (by decide) rfl ?_
  refine V_goto (tgt := 122) C d_X12_copy_181 (by decide) ?_
  refine V_lv [2, 3, 4, 5, 6, 7, 0] rfl (hk_122 M4 (wr_i (x6 + 1)) (ok_wr _) h)
set_option maxHeartbeats 4000000 in
set_option maxRecDepth 100000 in
theorem t_X12_copy_122 {X : XT_x} {G : GT_g} {z : (Mem_m × Int)} (C : Cx_ (K_X12_copy) X G) (hR : Rx_ X G (some .int)) (x0 : Nat) (x1 : Int) (x2 : Int) (x3 : Int) (x4 : Int) (x5 : Int) (o_x1 : ok_i x1) (o_x2 : ok_i x2) (o_x3 : ok_i x3) (o_x4 : ok_i x4) (o_x5 : ok_i x5) : ∀ (n : Nat) (M : Mem_m) (x6 : Int) (o_x6 : ok_i x6), f_X12_copy_122 G.2.2.2 x0 x1 x2 x3 x4 x5 n M x6 = some z → V_ (K_X12_copy) X G (Fq_ X G (Qi_ G z.1 z.2)) M 122 [(0, .ref (G.1 + x0)), (1, iv_i x1), (2, iv_i x2), (3, iv_i x3), (4, iv_i x4), (5, iv_i x5), (6, iv_i x6)] [] := by
  intro n
  induction n with
  | zero => intro M x6 o_x6 h; exact absurd h (by simp [f_X12_copy_122])
  | succ n ih =>
    intro M x6 o_x6 h
    unfold f_X12_copy_122 at h
    refine V_iload (j := 6) C d_X12_copy_122 rfl ?_
    refine V_iload (j := 5) C d_X12_copy_124 rfl ?_
    refine V_icmp_ge (tgt := 184) C d_X12_copy_126 (by decide) o_x6 o_x5 h (fun h => ?_) (fun h => ?_)
    · skip
      refine V_iload_n (j := 2) C d_X12_copy_129 rfl rfl ?_
      refine V_iload (j := 4) C d_X12_copy_130 rfl ?_
      refine V_icmp_le (tgt := 140) C d_X12_copy_132 (by decide) o_x2 o_x4 h (fun h => ?_) (fun h => ?_)
      · skip
        refine V_iload (j := 5) C d_X12_copy_140 rfl ?_
        refine V_iconst C d_X12_copy_142 ?_
        refine V_isub C d_X12_copy_143 ?_
        refine V_iload (j := 6) C d_X12_copy_144 rfl ?_
        refine V_isub C d_X12_copy_146 ?_
        refine V_lv [0, 1, 2, 3, 4, 5, 6] rfl (t_X12_copy_147 C hR M x0 x1 x2 x3 x4 x5 x6 (wr_i ((wr_i (x5 - 1)) - x6)) o_x1 o_x2 o_x3 o_x4 o_x5 o_x6 (ok_wr _) (fun M x6 => f_X12_copy_122 G.2.2.2 x0 x1 x2 x3 x4 x5 n M x6) (fun M x6 o_x6 h9 => ih M x6 o_x6 h9) h)
      · skip
        refine V_iload (j := 6) C d_X12_copy_135 rfl ?_
        refine V_goto (tgt := 147) C d_X12_copy_137 (by decide) ?_
        refine V_lv [0, 1, 2, 3, 4, 5, 6] rfl (t_X12_copy_147 C hR M x0 x1 x2 x3 x4 x5 x6 x6 o_x1 o_x2 o_x3 o_x4 o_x5 o_x6 o_x6 (fun M x6 => f_X12_copy_122 G.2.2.2 x0 x1 x2 x3 x4 x5 n M x6) (fun M x6 o_x6 h9 => ih M x6 o_x6 h9) h)
    · skip
      refine V_iload (j := 5) C d_X12_copy_184 rfl ?_
      exact V_iret_w C hR d_X12_copy_186 o_x5 h
set_option maxHeartbeats 4000000 in
set_option maxRecDepth 100000 in
theorem t_X12_copy {X : XT_x} {G : GT_g} {M : Mem_m} {z : (Mem_m × Int)} (C : Cx_ (K_X12_copy) X G) (hR : Rx_ X G (some .int)) (x0 : Nat) (x1 : Int) (x2 : Int) (x3 : Int) (x4 : Int) (x5 : Int) (o_x1 : ok_i x1) (o_x2 : ok_i x2) (o_x3 : ok_i x3) (o_x4 : ok_i x4) (o_x5 : ok_i x5) (h : f_X12_copy G.2.2.2 M x0 x1 x2 x3 x4 x5 = some z) : V_ (K_X12_copy) X G (Fq_ X G (Qi_ G z.1 z.2)) M 0 [(0, .ref (G.1 + x0)), (1, iv_i x1), (2, iv_i x2), (3, iv_i x3), (4, iv_i x4), (5, iv_i x5)] [] := by
  unfold f_X12_copy at h
  refine V_iload_n (j := 1) C d_X12_copy_0 rfl rfl ?_
  refine V_callSri (K' := K_X12_isShelf) (av := [iv_i x1]) (rest := []) ys_X12_isShelf C (yk_X12_isShelf) l1_X12_75 (by decide) d_X12_copy_1 (fun v hv => ct_X12_isShelf x1 o_x1 hv) rfl rfl (Nat.le_of_ble_eq_true rfl) h (fun v1 o1 h => ?_)
  refine V_if_eq (tgt := 14) C d_X12_copy_4 (by decide) o1 h (fun h => ?_) (fun h => ?_)
  · skip
    refine V_iconst C d_X12_copy_14 ?_
    exact V_iret_w C hR d_X12_copy_15 (okc rfl) h
  · skip
    refine V_iload_n (j := 3) C d_X12_copy_7 rfl rfl ?_
    refine V_callSri (K' := K_X12_isShelf) (av := [iv_i x3]) (rest := []) ys_X12_isShelf C (yk_X12_isShelf) l1_X12_75 (by decide) d_X12_copy_8 (fun v hv => ct_X12_isShelf x3 o_x3 hv) rfl rfl (Nat.le_of_ble_eq_true rfl) h (fun v2 o2 h => ?_)
    refine V_if_ne (tgt := 16) C d_X12_copy_11 (by decide) o2 h (fun h => ?_) (fun h => ?_)
    · skip
      refine V_iconst C d_X12_copy_14 ?_
      exact V_iret_w C hR d_X12_copy_15 (okc rfl) h
    · skip
      refine V_aload_n (j := 0) C d_X12_copy_16 rfl rfl ?_
      refine V_getR C ck_12 fw_X12_16 d_X12_copy_17 h (fun v3 h => ?_)
      refine V_iload_n (j := 1) C d_X12_copy_20 rfl rfl ?_
      refine V_iald C d_X12_copy_21 o_x1 h (fun v4 o4 h => ?_)
      refine V_if_eq (tgt := 34) C d_X12_copy_22 (by decide) o4 h (fun h => ?_) (fun h => ?_)
      · skip
        refine V_bipush (v := (-11)) C d_X12_copy_34 rfl ?_
        exact V_iret_w C hR d_X12_copy_36 (okc rfl) h
      · skip
        refine V_aload_n (j := 0) C d_X12_copy_25 rfl rfl ?_
        refine V_getR C ck_12 fw_X12_16 d_X12_copy_26 h (fun v5 h => ?_)
        refine V_iload_n (j := 3) C d_X12_copy_29 rfl rfl ?_
        refine V_iald C d_X12_copy_30 o_x3 h (fun v6 o6 h => ?_)
        refine V_if_ne (tgt := 37) C d_X12_copy_31 (by decide) o6 h (fun h => ?_) (fun h => ?_)
        · skip
          refine V_bipush (v := (-11)) C d_X12_copy_34 rfl ?_
          exact V_iret_w C hR d_X12_copy_36 (okc rfl) h
        · skip
          refine V_aload_n (j := 0) C d_X12_copy_37 rfl rfl ?_
          refine V_getR C ck_12 fw_X12_16 d_X12_copy_38 h (fun v7 h => ?_)
          refine V_iload_n (j := 1) C d_X12_copy_41 rfl rfl ?_
          refine V_iald C d_X12_copy_42 o_x1 h (fun v8 o8 h => ?_)
          refine V_iconst C d_X12_copy_43 ?_
          refine V_icmp_ne (tgt := 72) C d_X12_copy_44 (by decide) o8 (okc rfl) h (fun h => ?_) (fun h => ?_)
          · skip
            refine V_aload_n (j := 0) C d_X12_copy_47 rfl rfl ?_
            refine V_getR C ck_12 fw_X12_16 d_X12_copy_48 h (fun v9 h => ?_)
            refine V_iload_n (j := 3) C d_X12_copy_51 rfl rfl ?_
            refine V_iald C d_X12_copy_52 o_x3 h (fun v10 o10 h => ?_)
            refine V_iconst C d_X12_copy_53 ?_
            refine V_icmp_ne (tgt := 72) C d_X12_copy_54 (by decide) o10 (okc rfl) h (fun h => ?_) (fun h => ?_)
            · skip
              refine V_aload_n (j := 0) C d_X12_copy_57 rfl rfl ?_
              refine V_getR C ck_12 fw_X12_19 d_X12_copy_58 h (fun v11 h => ?_)
              refine V_iload_n (j := 1) C d_X12_copy_61 rfl rfl ?_
              refine V_iald C d_X12_copy_62 o_x1 h (fun v12 o12 h => ?_)
              refine V_aload_n (j := 0) C d_X12_copy_63 rfl rfl ?_
              refine V_getR C ck_12 fw_X12_19 d_X12_copy_64 h (fun v13 h => ?_)
              refine V_iload_n (j := 3) C d_X12_copy_67 rfl rfl ?_
              refine V_iald C d_X12_copy_68 o_x3 h (fun v14 o14 h => ?_)
              refine V_icmp_eq (tgt := 75) C d_X12_copy_69 (by decide) o12 o14 h (fun h => ?_) (fun h => ?_)
              · skip
                refine V_iload (j := 5) C d_X12_copy_75 rfl ?_
                refine V_if_lt (tgt := 116) C d_X12_copy_77 (by decide) o_x5 h (fun h => ?_) (fun h => ?_)
                · skip
                  refine V_bipush (v := (-13)) C d_X12_copy_116 rfl ?_
                  exact V_iret_w C hR d_X12_copy_118 (okc rfl) h
                · skip
                  refine V_iload_n (j := 2) C d_X12_copy_80 rfl rfl ?_
                  refine V_if_lt (tgt := 116) C d_X12_copy_81 (by decide) o_x2 h (fun h => ?_) (fun h => ?_)
                  · skip
                    refine V_bipush (v := (-13)) C d_X12_copy_116 rfl ?_
                    exact V_iret_w C hR d_X12_copy_118 (okc rfl) h
                  · skip
                    refine V_iload (j := 4) C d_X12_copy_84 rfl ?_
                    refine V_if_lt (tgt := 116) C d_X12_copy_86 (by decide) o_x4 h (fun h => ?_) (fun h => ?_)
                    · skip
                      refine V_bipush (v := (-13)) C d_X12_copy_116 rfl ?_
                      exact V_iret_w C hR d_X12_copy_118 (okc rfl) h
                    · skip
                      refine V_iload (j := 5) C d_X12_copy_89 rfl ?_
                      refine V_aload_n (j := 0) C d_X12_copy_91 rfl rfl ?_
                      refine V_getR C ck_12 fw_X12_22 d_X12_copy_92 h (fun v15 h => ?_)
                      refine V_iload_n (j := 1) C d_X12_copy_95 rfl rfl ?_
                      refine V_iald C d_X12_copy_96 o_x1 h (fun v16 o16 h => ?_)
                      refine V_iload_n (j := 2) C d_X12_copy_97 rfl rfl ?_
                      refine V_isub C d_X12_copy_98 ?_
                      refine V_icmp_gt (tgt := 116) C d_X12_copy_99 (by decide) o_x5 (ok_wr _) h (fun h => ?_) (fun h => ?_)
                      · skip
                        refine V_iload (j := 5) C d_X12_copy_102 rfl ?_
                        refine V_aload_n (j := 0) C d_X12_copy_104 rfl rfl ?_
                        refine V_getR C ck_12 fw_X12_22 d_X12_copy_105 h (fun v17 h => ?_)
                        refine V_iload_n (j := 3) C d_X12_copy_108 rfl rfl ?_
                        refine V_iald C d_X12_copy_109 o_x3 h (fun v18 o18 h => ?_)
                        refine V_iload (j := 4) C d_X12_copy_110 rfl ?_
                        refine V_isub C d_X12_copy_112 ?_
                        refine V_icmp_le (tgt := 119) C d_X12_copy_113 (by decide) o_x5 (ok_wr _) h (fun h => ?_) (fun h => ?_)
                        · skip
                          refine V_iconst C d_X12_copy_119 ?_
                          refine V_istore (lv' := [(6, iv_i 0), (0, .ref (G.1 + x0)), (1, iv_i x1), (2, iv_i x2), (3, iv_i x3), (4, iv_i x4), (5, iv_i x5)]) C d_X12_copy_120 (by decide) rfl ?_
                          refine V_lv [1, 2, 3, 4, 5, 6, 0] rfl (t_X12_copy_122 C hR x0 x1 x2 x3 x4 x5 o_x1 o_x2 o_x3 o_x4 o_x5 FU_ M 0 (okc rfl) h)
                        · skip
                          refine V_bipush (v := (-13)) C d_X12_copy_116 rfl ?_
                          exact V_iret_w C hR d_X12_copy_118 (okc rfl) h
                      · skip
                        refine V_bipush (v := (-13)) C d_X12_copy_116 rfl ?_
                        exact V_iret_w C hR d_X12_copy_118 (okc rfl) h
              · skip
                refine V_bipush (v := (-12)) C d_X12_copy_72 rfl ?_
                exact V_iret_w C hR d_X12_copy_74 (okc rfl) h
            · skip
              refine V_bipush (v := (-12)) C d_X12_copy_72 rfl ?_
              exact V_iret_w C hR d_X12_copy_74 (okc rfl) h
          · skip
            refine V_bipush (v := (-12)) C d_X12_copy_72 rfl ?_
            exact V_iret_w C hR d_X12_copy_74 (okc rfl) h
set_option maxHeartbeats 4000000 in
set_option maxRecDepth 100000 in
theorem ct_X12_copy {l : Launch} {G : GT_g} {M : Mem_m} (x0 : Nat) (x1 : Int) (x2 : Int) (x3 : Int) (x4 : Int) (x5 : Int) (o_x1 : ok_i x1) (o_x2 : ok_i x2) (o_x3 : ok_i x3) (o_x4 : ok_i x4) (o_x5 : ok_i x5) {z : (Mem_m × Int)} (h : f_X12_copy G.2.2.2 M x0 x1 x2 x3 x4 x5 = some z) : MI_ l yX12_copy K_X12_copy (some .int) G M [.ref (G.1 + x0), iv_i x1, iv_i x2, iv_i x3, iv_i x4, iv_i x5] z.1 z.2 :=
  met_of (by decide +kernel) rfl (Nat.le_of_ble_eq_true rfl) (fun X hl C hR => by subst hl; exact t_X12_copy C hR x0 x1 x2 x3 x4 x5 o_x1 o_x2 o_x3 o_x4 o_x5 h)
theorem d_X12_wrongKept_0 : decode cX12_wrongKept 0 = .ok (.iload_n 1, 1) := by decide +kernel
theorem d_X12_wrongKept_1 : decode cX12_wrongKept 1 = .ok (.invokestatic 75, 3) := by decide +kernel
theorem d_X12_wrongKept_4 : decode cX12_wrongKept 4 = .ok (.ifCond .ne 7, 3) := by decide +kernel
theorem d_X12_wrongKept_7 : decode cX12_wrongKept 7 = .ok (.iconst (-1), 1) := by decide +kernel
theorem d_X12_wrongKept_8 : decode cX12_wrongKept 8 = .ok (.goto 33, 3) := by decide +kernel
theorem d_X12_wrongKept_11 : decode cX12_wrongKept 11 = .ok (.aload_n 0, 1) := by decide +kernel
theorem d_X12_wrongKept_12 : decode cX12_wrongKept 12 = .ok (.getfield 16, 3) := by decide +kernel
theorem d_X12_wrongKept_15 : decode cX12_wrongKept 15 = .ok (.iload_n 1, 1) := by decide +kernel
theorem d_X12_wrongKept_16 : decode cX12_wrongKept 16 = .ok (.iaload, 1) := by decide +kernel
theorem d_X12_wrongKept_17 : decode cX12_wrongKept 17 = .ok (.ifCond .ne 8, 3) := by decide +kernel
theorem d_X12_wrongKept_20 : decode cX12_wrongKept 20 = .ok (.bipush (-11), 2) := by decide +kernel
theorem d_X12_wrongKept_22 : decode cX12_wrongKept 22 = .ok (.goto 19, 3) := by decide +kernel
theorem d_X12_wrongKept_25 : decode cX12_wrongKept 25 = .ok (.aload_n 0, 1) := by decide +kernel
theorem d_X12_wrongKept_26 : decode cX12_wrongKept 26 = .ok (.getfield 16, 3) := by decide +kernel
theorem d_X12_wrongKept_29 : decode cX12_wrongKept 29 = .ok (.iload_n 1, 1) := by decide +kernel
theorem d_X12_wrongKept_30 : decode cX12_wrongKept 30 = .ok (.iaload, 1) := by decide +kernel
theorem d_X12_wrongKept_31 : decode cX12_wrongKept 31 = .ok (.iconst 1, 1) := by decide +kernel
theorem d_X12_wrongKept_32 : decode cX12_wrongKept 32 = .ok (.if_icmp .ne 7, 3) := by decide +kernel
theorem d_X12_wrongKept_35 : decode cX12_wrongKept 35 = .ok (.iconst 0, 1) := by decide +kernel
theorem d_X12_wrongKept_36 : decode cX12_wrongKept 36 = .ok (.goto 5, 3) := by decide +kernel
theorem d_X12_wrongKept_39 : decode cX12_wrongKept 39 = .ok (.bipush (-12), 2) := by decide +kernel
theorem d_X12_wrongKept_41 : decode cX12_wrongKept 41 = .ok (.ireturn, 1) := by decide +kernel
set_option maxHeartbeats 4000000 in
set_option maxRecDepth 100000 in
theorem t_X12_wrongKept {X : XT_x} {G : GT_g} {M : Mem_m} {z : Int} (C : Cx_ (K_X12_wrongKept) X G) (hR : Rx_ X G (some .int)) (x0 : Nat) (x1 : Int) (o_x1 : ok_i x1) (h : f_X12_wrongKept G.2.2.2 M x0 x1 = some z) : V_ (K_X12_wrongKept) X G (Fq_ X G (Qi_ G M z)) M 0 [(0, .ref (G.1 + x0)), (1, iv_i x1)] [] := by
  unfold f_X12_wrongKept at h
  refine V_iload_n (j := 1) C d_X12_wrongKept_0 rfl rfl ?_
  refine V_callSri (K' := K_X12_isShelf) (av := [iv_i x1]) (rest := []) ys_X12_isShelf C (yk_X12_isShelf) l1_X12_75 (by decide) d_X12_wrongKept_1 (fun v hv => ct_X12_isShelf x1 o_x1 hv) rfl rfl (Nat.le_of_ble_eq_true rfl) h (fun v1 o1 h => ?_)
  refine V_if_ne (tgt := 11) C d_X12_wrongKept_4 (by decide) o1 h (fun h => ?_) (fun h => ?_)
  · skip
    refine V_iconst C d_X12_wrongKept_7 ?_
    refine V_goto (tgt := 41) C d_X12_wrongKept_8 (by decide) ?_
    exact V_iret_r C hR d_X12_wrongKept_41 (okc rfl) h
  · skip
    refine V_aload_n (j := 0) C d_X12_wrongKept_11 rfl rfl ?_
    refine V_getR C ck_12 fw_X12_16 d_X12_wrongKept_12 h (fun v2 h => ?_)
    refine V_iload_n (j := 1) C d_X12_wrongKept_15 rfl rfl ?_
    refine V_iald C d_X12_wrongKept_16 o_x1 h (fun v3 o3 h => ?_)
    refine V_if_ne (tgt := 25) C d_X12_wrongKept_17 (by decide) o3 h (fun h => ?_) (fun h => ?_)
    · skip
      refine V_bipush (v := (-11)) C d_X12_wrongKept_20 rfl ?_
      refine V_goto (tgt := 41) C d_X12_wrongKept_22 (by decide) ?_
      exact V_iret_r C hR d_X12_wrongKept_41 (okc rfl) h
    · skip
      refine V_aload_n (j := 0) C d_X12_wrongKept_25 rfl rfl ?_
      refine V_getR C ck_12 fw_X12_16 d_X12_wrongKept_26 h (fun v4 h => ?_)
      refine V_iload_n (j := 1) C d_X12_wrongKept_29 rfl rfl ?_
      refine V_iald C d_X12_wrongKept_30 o_x1 h (fun v5 o5 h => ?_)
      refine V_iconst C d_X12_wrongKept_31 ?_
      refine V_icmp_ne (tgt := 39) C d_X12_wrongKept_32 (by decide) o5 (okc rfl) h (fun h => ?_) (fun h => ?_)
      · skip
        refine V_iconst C d_X12_wrongKept_35 ?_
        refine V_goto (tgt := 41) C d_X12_wrongKept_36 (by decide) ?_
        exact V_iret_r C hR d_X12_wrongKept_41 (okc rfl) h
      · skip
        refine V_bipush (v := (-12)) C d_X12_wrongKept_39 rfl ?_
        exact V_iret_r C hR d_X12_wrongKept_41 (okc rfl) h
set_option maxHeartbeats 4000000 in
set_option maxRecDepth 100000 in
theorem ct_X12_wrongKept {l : Launch} {G : GT_g} {M : Mem_m} (x0 : Nat) (x1 : Int) (o_x1 : ok_i x1) {z : Int} (h : f_X12_wrongKept G.2.2.2 M x0 x1 = some z) : MI_ l yX12_wrongKept K_X12_wrongKept (some .int) G M [.ref (G.1 + x0), iv_i x1] M z :=
  met_of (by decide +kernel) rfl (Nat.le_of_ble_eq_true rfl) (fun X hl C hR => by subst hl; exact t_X12_wrongKept C hR x0 x1 o_x1 h)
theorem d_X12_length_0 : decode cX12_length 0 = .ok (.aload_n 0, 1) := by decide +kernel
theorem d_X12_length_1 : decode cX12_length 1 = .ok (.iload_n 1, 1) := by decide +kernel
theorem d_X12_length_2 : decode cX12_length 2 = .ok (.invokevirtual 304, 3) := by decide +kernel
theorem d_X12_length_5 : decode cX12_length 5 = .ok (.istore_n 2, 1) := by decide +kernel
theorem d_X12_length_6 : decode cX12_length 6 = .ok (.iload_n 2, 1) := by decide +kernel
theorem d_X12_length_7 : decode cX12_length 7 = .ok (.ifCond .eq 7, 3) := by decide +kernel
theorem d_X12_length_10 : decode cX12_length 10 = .ok (.iload_n 2, 1) := by decide +kernel
theorem d_X12_length_11 : decode cX12_length 11 = .ok (.goto 9, 3) := by decide +kernel
theorem d_X12_length_14 : decode cX12_length 14 = .ok (.aload_n 0, 1) := by decide +kernel
theorem d_X12_length_15 : decode cX12_length 15 = .ok (.getfield 28, 3) := by decide +kernel
theorem d_X12_length_18 : decode cX12_length 18 = .ok (.iload_n 1, 1) := by decide +kernel
theorem d_X12_length_19 : decode cX12_length 19 = .ok (.iaload, 1) := by decide +kernel
theorem d_X12_length_20 : decode cX12_length 20 = .ok (.ireturn, 1) := by decide +kernel
set_option maxHeartbeats 4000000 in
set_option maxRecDepth 100000 in
theorem t_X12_length {X : XT_x} {G : GT_g} {M : Mem_m} {z : Int} (C : Cx_ (K_X12_length) X G) (hR : Rx_ X G (some .int)) (x0 : Nat) (x1 : Int) (o_x1 : ok_i x1) (h : f_X12_length G.2.2.2 M x0 x1 = some z) : V_ (K_X12_length) X G (Fq_ X G (Qi_ G M z)) M 0 [(0, .ref (G.1 + x0)), (1, iv_i x1)] [] := by
  unfold f_X12_length at h
  refine V_aload_n (j := 0) C d_X12_length_0 rfl rfl ?_
  refine V_iload_n (j := 1) C d_X12_length_1 rfl rfl ?_
  refine V_callVri (K' := K_X12_wrongKept) (a := x0) (ci := 12) (av := [iv_i x1]) (rest := []) yi_X12_wrongKept (by decide) rfl C (yk_X12_wrongKept) l1_X12_304 (by decide) d_X12_length_2 (fun v hv => ct_X12_wrongKept x0 x1 o_x1 hv) rfl rfl (Nat.le_of_ble_eq_true rfl) h (fun v1 o1 h => ?_)
  refine V_istore_n (lv' := [(2, iv_i v1), (0, .ref (G.1 + x0)), (1, iv_i x1)]) C d_X12_length_5 rfl (by decide) rfl ?_
  refine V_iload_n (j := 0) C d_X12_length_6 rfl rfl ?_
  refine V_if_eq (tgt := 14) C d_X12_length_7 (by decide) o1 h (fun h => ?_) (fun h => ?_)
  · skip
    refine V_aload_n (j := 1) C d_X12_length_14 rfl rfl ?_
    refine V_getR C ck_12 fw_X12_28 d_X12_length_15 h (fun v2 h => ?_)
    refine V_iload_n (j := 2) C d_X12_length_18 rfl rfl ?_
    refine V_iald C d_X12_length_19 o_x1 h (fun v3 o3 h => ?_)
    exact V_iret_r C hR d_X12_length_20 o3 h
  · skip
    refine V_iload_n (j := 0) C d_X12_length_10 rfl rfl ?_
    refine V_goto (tgt := 20) C d_X12_length_11 (by decide) ?_
    exact V_iret_r C hR d_X12_length_20 o1 h
set_option maxHeartbeats 4000000 in
set_option maxRecDepth 100000 in
theorem ct_X12_length {l : Launch} {G : GT_g} {M : Mem_m} (x0 : Nat) (x1 : Int) (o_x1 : ok_i x1) {z : Int} (h : f_X12_length G.2.2.2 M x0 x1 = some z) : MI_ l yX12_length K_X12_length (some .int) G M [.ref (G.1 + x0), iv_i x1] M z :=
  met_of (by decide +kernel) rfl (Nat.le_of_ble_eq_true rfl) (fun X hl C hR => by subst hl; exact t_X12_length C hR x0 x1 o_x1 h)
theorem d_X12_toss_0 : decode cX12_toss 0 = .ok (.aload_n 0, 1) := by decide +kernel
theorem d_X12_toss_1 : decode cX12_toss 1 = .ok (.iload_n 1, 1) := by decide +kernel
theorem d_X12_toss_2 : decode cX12_toss 2 = .ok (.invokevirtual 304, 3) := by decide +kernel
theorem d_X12_toss_5 : decode cX12_toss 5 = .ok (.istore_n 2, 1) := by decide +kernel
theorem d_X12_toss_6 : decode cX12_toss 6 = .ok (.iload_n 2, 1) := by decide +kernel
theorem d_X12_toss_7 : decode cX12_toss 7 = .ok (.ifCond .eq 7, 3) := by decide +kernel
theorem d_X12_toss_10 : decode cX12_toss 10 = .ok (.iload_n 2, 1) := by decide +kernel
theorem d_X12_toss_11 : decode cX12_toss 11 = .ok (.goto 9, 3) := by decide +kernel
theorem d_X12_toss_14 : decode cX12_toss 14 = .ok (.aload_n 0, 1) := by decide +kernel
theorem d_X12_toss_15 : decode cX12_toss 15 = .ok (.getfield 31, 3) := by decide +kernel
theorem d_X12_toss_18 : decode cX12_toss 18 = .ok (.iload_n 1, 1) := by decide +kernel
theorem d_X12_toss_19 : decode cX12_toss 19 = .ok (.iaload, 1) := by decide +kernel
theorem d_X12_toss_20 : decode cX12_toss 20 = .ok (.ireturn, 1) := by decide +kernel
set_option maxHeartbeats 4000000 in
set_option maxRecDepth 100000 in
theorem t_X12_toss {X : XT_x} {G : GT_g} {M : Mem_m} {z : Int} (C : Cx_ (K_X12_toss) X G) (hR : Rx_ X G (some .int)) (x0 : Nat) (x1 : Int) (o_x1 : ok_i x1) (h : f_X12_toss G.2.2.2 M x0 x1 = some z) : V_ (K_X12_toss) X G (Fq_ X G (Qi_ G M z)) M 0 [(0, .ref (G.1 + x0)), (1, iv_i x1)] [] := by
  unfold f_X12_toss at h
  refine V_aload_n (j := 0) C d_X12_toss_0 rfl rfl ?_
  refine V_iload_n (j := 1) C d_X12_toss_1 rfl rfl ?_
  refine V_callVri (K' := K_X12_wrongKept) (a := x0) (ci := 12) (av := [iv_i x1]) (rest := []) yi_X12_wrongKept (by decide) rfl C (yk_X12_wrongKept) l1_X12_304 (by decide) d_X12_toss_2 (fun v hv => ct_X12_wrongKept x0 x1 o_x1 hv) rfl rfl (Nat.le_of_ble_eq_true rfl) h (fun v1 o1 h => ?_)
  refine V_istore_n (lv' := [(2, iv_i v1), (0, .ref (G.1 + x0)), (1, iv_i x1)]) C d_X12_toss_5 rfl (by decide) rfl ?_
  refine V_iload_n (j := 0) C d_X12_toss_6 rfl rfl ?_
  refine V_if_eq (tgt := 14) C d_X12_toss_7 (by decide) o1 h (fun h => ?_) (fun h => ?_)
  · skip
    refine V_aload_n (j := 1) C d_X12_toss_14 rfl rfl ?_
    refine V_getR C ck_12 fw_X12_31 d_X12_toss_15 h (fun v2 h => ?_)
    refine V_iload_n (j := 2) C d_X12_toss_18 rfl rfl ?_
    refine V_iald C d_X12_toss_19 o_x1 h (fun v3 o3 h => ?_)
    exact V_iret_r C hR d_X12_toss_20 o3 h
  · skip
    refine V_iload_n (j := 0) C d_X12_toss_10 rfl rfl ?_
    refine V_goto (tgt := 20) C d_X12_toss_11 (by decide) ?_
    exact V_iret_r C hR d_X12_toss_20 o1 h
set_option maxHeartbeats 4000000 in
set_option maxRecDepth 100000 in
theorem ct_X12_toss {l : Launch} {G : GT_g} {M : Mem_m} (x0 : Nat) (x1 : Int) (o_x1 : ok_i x1) {z : Int} (h : f_X12_toss G.2.2.2 M x0 x1 = some z) : MI_ l yX12_toss K_X12_toss (some .int) G M [.ref (G.1 + x0), iv_i x1] M z :=
  met_of (by decide +kernel) rfl (Nat.le_of_ble_eq_true rfl) (fun X hl C hR => by subst hl; exact t_X12_toss C hR x0 x1 o_x1 h)
