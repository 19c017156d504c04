theorem d_X11_sound_0 : decode cX11_sound 0 = .ok (.iload_n 1, 1) := by decide +kernel
theorem d_X11_sound_1 : decode cX11_sound 1 = .ok (.aload_n 0, 1) := by decide +kernel
theorem d_X11_sound_2 : decode cX11_sound 2 = .ok (.getfield 10, 3) := by decide +kernel
theorem d_X11_sound_5 : decode cX11_sound 5 = .ok (.getfield 69, 3) := by decide +kernel
theorem d_X11_sound_8 : decode cX11_sound 8 = .ok (.invokestatic 61, 3) := by decide +kernel
theorem d_X11_sound_11 : decode cX11_sound 11 = .ok (.ifCond .eq 25, 3) := by decide +kernel
theorem d_X11_sound_14 : decode cX11_sound 14 = .ok (.iload_n 2, 1) := by decide +kernel
theorem d_X11_sound_15 : decode cX11_sound 15 = .ok (.aload_n 0, 1) := by decide +kernel
theorem d_X11_sound_16 : decode cX11_sound 16 = .ok (.getfield 10, 3) := by decide +kernel
theorem d_X11_sound_19 : decode cX11_sound 19 = .ok (.getfield 77, 3) := by decide +kernel
theorem d_X11_sound_22 : decode cX11_sound 22 = .ok (.iload_n 1, 1) := by decide +kernel
theorem d_X11_sound_23 : decode cX11_sound 23 = .ok (.aaload, 1) := by decide +kernel
theorem d_X11_sound_24 : decode cX11_sound 24 = .ok (.getfield 81, 3) := by decide +kernel
theorem d_X11_sound_27 : decode cX11_sound 27 = .ok (.getfield 112, 3) := by decide +kernel
theorem d_X11_sound_30 : decode cX11_sound 30 = .ok (.invokestatic 61, 3) := by decide +kernel
theorem d_X11_sound_33 : decode cX11_sound 33 = .ok (.ifCond .ne 5, 3) := by decide +kernel
theorem d_X11_sound_36 : decode cX11_sound 36 = .ok (.iconst (-1), 1) := by decide +kernel
theorem d_X11_sound_37 : decode cX11_sound 37 = .ok (.ireturn, 1) := by decide +kernel
theorem d_X11_sound_38 : decode cX11_sound 38 = .ok (.aload_n 0, 1) := by decide +kernel
theorem d_X11_sound_39 : decode cX11_sound 39 = .ok (.getfield 10, 3) := by decide +kernel
theorem d_X11_sound_42 : decode cX11_sound 42 = .ok (.getfield 77, 3) := by decide +kernel
theorem d_X11_sound_45 : decode cX11_sound 45 = .ok (.iload_n 1, 1) := by decide +kernel
theorem d_X11_sound_46 : decode cX11_sound 46 = .ok (.aaload, 1) := by decide +kernel
theorem d_X11_sound_47 : decode cX11_sound 47 = .ok (.getfield 81, 3) := by decide +kernel
theorem d_X11_sound_50 : decode cX11_sound 50 = .ok (.getfield 115, 3) := by decide +kernel
theorem d_X11_sound_53 : decode cX11_sound 53 = .ok (.iload_n 2, 1) := by decide +kernel
theorem d_X11_sound_54 : decode cX11_sound 54 = .ok (.iaload, 1) := by decide +kernel
theorem d_X11_sound_55 : decode cX11_sound 55 = .ok (.ireturn, 1) := by decide +kernel
set_option maxHeartbeats 4000000 in
set_option maxRecDepth 100000 in
theorem t_X11_sound {X : XT_x} {G : GT_g} {M : Mem_m} {z : Int} (C : Cx_ (K_X11_sound) X G) (hR : Rx_ X G (some .int)) (x0 : Nat) (x1 : Int) (x2 : Int) (o_x1 : ok_i x1) (o_x2 : ok_i x2) (h : f_X11_sound G.2.2.2 M x0 x1 x2 = some z) : V_ (K_X11_sound) X G (Fq_ X G (Qi_ G M z)) M 0 [(0, .ref (G.1 + x0)), (1, iv_i x1), (2, iv_i x2)] [] := by
  unfold f_X11_sound at h
  refine V_iload_n (j := 1) C d_X11_sound_0 rfl rfl ?_
  refine V_aload_n (j := 0) C d_X11_sound_1 rfl rfl ?_
  refine V_getR C ck_11 fw_X11_10 d_X11_sound_2 h (fun v1 h => ?_)
  refine V_getI C ck_0 fw_X11_69 d_X11_sound_5 h (fun v2 o2 h => ?_)
  refine V_callSri (K' := K_X11_isIn) (av := [iv_i x1, iv_i v2]) (rest := []) ys_X11_isIn C (yk_X11_isIn) l1_X11_61 (by decide) d_X11_sound_8 (fun v hv => ct_X11_isIn x1 v2 o_x1 o2 hv) rfl rfl (Nat.le_of_ble_eq_true rfl) h (fun v3 o3 h => ?_)
  refine V_if_eq (tgt := 36) C d_X11_sound_11 (by decide) o3 h (fun h => ?_) (fun h => ?_)
  · skip
    refine V_iconst C d_X11_sound_36 ?_
    exact V_iret_r C hR d_X11_sound_37 (okc rfl) h
  · skip
    refine V_iload_n (j := 2) C d_X11_sound_14 rfl rfl ?_
    refine V_aload_n (j := 0) C d_X11_sound_15 rfl rfl ?_
    refine V_getR C ck_11 fw_X11_10 d_X11_sound_16 h (fun v4 h => ?_)
    refine V_getR C ck_0 fw_X11_77 d_X11_sound_19 h (fun v5 h => ?_)
    refine V_iload_n (j := 1) C d_X11_sound_22 rfl rfl ?_
    refine V_aald (t := 0) C tc_0 d_X11_sound_23 o_x1 h (fun v6 h => ?_)
    refine V_getR C ck_1 fw_X11_81 d_X11_sound_24 h (fun v7 h => ?_)
    refine V_getI C ck_10 fw_X11_112 d_X11_sound_27 h (fun v8 o8 h => ?_)
    refine V_callSri (K' := K_X11_isIn) (av := [iv_i x2, iv_i v8]) (rest := []) ys_X11_isIn C (yk_X11_isIn) l1_X11_61 (by decide) d_X11_sound_30 (fun v hv => ct_X11_isIn x2 v8 o_x2 o8 hv) rfl rfl (Nat.le_of_ble_eq_true rfl) h (fun v9 o9 h => ?_)
    refine V_if_ne (tgt := 38) C d_X11_sound_33 (by decide) o9 h (fun h => ?_) (fun h => ?_)
    · skip
      refine V_iconst C d_X11_sound_36 ?_
      exact V_iret_r C hR d_X11_sound_37 (okc rfl) h
    · skip
      refine V_aload_n (j := 0) C d_X11_sound_38 rfl rfl ?_
      refine V_getR C ck_11 fw_X11_10 d_X11_sound_39 h (fun v10 h => ?_)
      refine V_getR C ck_0 fw_X11_77 d_X11_sound_42 h (fun v11 h => ?_)
      refine V_iload_n (j := 1) C d_X11_sound_45 rfl rfl ?_
      refine V_aald (t := 0) C tc_0 d_X11_sound_46 o_x1 h (fun v12 h => ?_)
      refine V_getR C ck_1 fw_X11_81 d_X11_sound_47 h (fun v13 h => ?_)
      refine V_getR C ck_10 fw_X11_115 d_X11_sound_50 h (fun v14 h => ?_)
      refine V_iload_n (j := 2) C d_X11_sound_53 rfl rfl ?_
      refine V_iald C d_X11_sound_54 o_x2 h (fun v15 o15 h => ?_)
      exact V_iret_r C hR d_X11_sound_55 o15 h
set_option maxHeartbeats 4000000 in
set_option maxRecDepth 100000 in
theorem ct_X11_sound {l : Launch} {G : GT_g} {M : Mem_m} (x0 : Nat) (x1 : Int) (x2 : Int) (o_x1 : ok_i x1) (o_x2 : ok_i x2) {z : Int} (h : f_X11_sound G.2.2.2 M x0 x1 x2 = some z) : MI_ l yX11_sound K_X11_sound (some .int) G M [.ref (G.1 + x0), iv_i x1, iv_i x2] M z :=
  met_of (by decide +kernel) rfl (Nat.le_of_ble_eq_true rfl) (fun X hl C hR => by subst hl; exact t_X11_sound C hR x0 x1 x2 o_x1 o_x2 h)
theorem d_X11_classOf_0 : decode cX11_classOf 0 = .ok (.iload_n 1, 1) := by decide +kernel
theorem d_X11_classOf_1 : decode cX11_classOf 1 = .ok (.bipush 10, 2) := by decide +kernel
theorem d_X11_classOf_3 : decode cX11_classOf 3 = .ok (.invokestatic 61, 3) := by decide +kernel
theorem d_X11_classOf_6 : decode cX11_classOf 6 = .ok (.ifCond .eq 11, 3) := by decide +kernel
theorem d_X11_classOf_9 : decode cX11_classOf 9 = .ok (.iload_n 2, 1) := by decide +kernel
theorem d_X11_classOf_10 : decode cX11_classOf 10 = .ok (.iconst 4, 1) := by decide +kernel
theorem d_X11_classOf_11 : decode cX11_classOf 11 = .ok (.invokestatic 61, 3) := by decide +kernel
theorem d_X11_classOf_14 : decode cX11_classOf 14 = .ok (.ifCond .ne 5, 3) := by decide +kernel
theorem d_X11_classOf_17 : decode cX11_classOf 17 = .ok (.iconst (-1), 1) := by decide +kernel
theorem d_X11_classOf_18 : decode cX11_classOf 18 = .ok (.ireturn, 1) := by decide +kernel
theorem d_X11_classOf_19 : decode cX11_classOf 19 = .ok (.aload_n 0, 1) := by decide +kernel
theorem d_X11_classOf_20 : decode cX11_classOf 20 = .ok (.getfield 10, 3) := by decide +kernel
theorem d_X11_classOf_23 : decode cX11_classOf 23 = .ok (.getfield 119, 3) := by decide +kernel
theorem d_X11_classOf_26 : decode cX11_classOf 26 = .ok (.iload_n 1, 1) := by decide +kernel
theorem d_X11_classOf_27 : decode cX11_classOf 27 = .ok (.iaload, 1) := by decide +kernel
theorem d_X11_classOf_28 : decode cX11_classOf 28 = .ok (.istore_n 3, 1) := by decide +kernel
theorem d_X11_classOf_29 : decode cX11_classOf 29 = .ok (.aload_n 0, 1) := by decide +kernel
theorem d_X11_classOf_30 : decode cX11_classOf 30 = .ok (.getfield 10, 3) := by decide +kernel
theorem d_X11_classOf_33 : decode cX11_classOf 33 = .ok (.getfield 119, 3) := by decide +kernel
theorem d_X11_classOf_36 : decode cX11_classOf 36 = .ok (.iload_n 1, 1) := by decide +kernel
theorem d_X11_classOf_37 : decode cX11_classOf 37 = .ok (.iload_n 2, 1) := by decide +kernel
theorem d_X11_classOf_38 : decode cX11_classOf 38 = .ok (.iastore, 1) := by decide +kernel
theorem d_X11_classOf_39 : decode cX11_classOf 39 = .ok (.iload_n 3, 1) := by decide +kernel
theorem d_X11_classOf_40 : decode cX11_classOf 40 = .ok (.ireturn, 1) := by decide +kernel
set_option maxHeartbeats 4000000 in
set_option maxRecDepth 100000 in
theorem t_X11_classOf {X : XT_x} {G : GT_g} {M : Mem_m} {z : (Mem_m × Int)} (C : Cx_ (K_X11_classOf) X G) (hR : Rx_ X G (some .int)) (x0 : Nat) (x1 : Int) (x2 : Int) (o_x1 : ok_i x1) (o_x2 : ok_i x2) (h : f_X11_classOf G.2.2.2 M x0 x1 x2 = some z) : V_ (K_X11_classOf) X G (Fq_ X G (Qi_ G z.1 z.2)) M 0 [(0, .ref (G.1 + x0)), (1, iv_i x1), (2, iv_i x2)] [] := by
  unfold f_X11_classOf at h
  refine V_iload_n (j := 1) C d_X11_classOf_0 rfl rfl ?_
  refine V_bipush (v := 10) C d_X11_classOf_1 rfl ?_
  refine V_callSri (K' := K_X11_isIn) (av := [iv_i x1, iv_i 10]) (rest := []) ys_X11_isIn C (yk_X11_isIn) l1_X11_61 (by decide) d_X11_classOf_3 (fun v hv => ct_X11_isIn x1 10 o_x1 (okc rfl) hv) rfl rfl (Nat.le_of_ble_eq_true rfl) h (fun v1 o1 h => ?_)
  refine V_if_eq (tgt := 17) C d_X11_classOf_6 (by decide) o1 h (fun h => ?_) (fun h => ?_)
  · skip
    refine V_iconst C d_X11_classOf_17 ?_
    exact V_iret_w C hR d_X11_classOf_18 (okc rfl) h
  · skip
    refine V_iload_n (j := 2) C d_X11_classOf_9 rfl rfl ?_
    refine V_iconst C d_X11_classOf_10 ?_
    refine V_callSri (K' := K_X11_isIn) (av := [iv_i x2, iv_i 4]) (rest := []) ys_X11_isIn C (yk_X11_isIn) l1_X11_61 (by decide) d_X11_classOf_11 (fun v hv => ct_X11_isIn x2 4 o_x2 (okc rfl) hv) rfl rfl (Nat.le_of_ble_eq_true rfl) h (fun v2 o2 h => ?_)
    refine V_if_ne (tgt := 19) C d_X11_classOf_14 (by decide) o2 h (fun h => ?_) (fun h => ?_)
    · skip
      refine V_iconst C d_X11_classOf_17 ?_
      exact V_iret_w C hR d_X11_classOf_18 (okc rfl) h
    · skip
      refine V_aload_n (j := 0) C d_X11_classOf_19 rfl rfl ?_
      refine V_getR C ck_11 fw_X11_10 d_X11_classOf_20 h (fun v3 h => ?_)
      refine V_getR C ck_0 fw_X11_119 d_X11_classOf_23 h (fun v4 h => ?_)
      refine V_iload_n (j := 1) C d_X11_classOf_26 rfl rfl ?_
      refine V_iald C d_X11_classOf_27 o_x1 h (fun v5 o5 h => ?_)
      refine V_istore_n (lv' := [(3, iv_i v5), (0, .ref (G.1 + x0)), (1, iv_i x1), (2, iv_i x2)]) C d_X11_classOf_28 rfl (by decide) rfl ?_
      refine V_aload_n (j := 1) C d_X11_classOf_29 rfl rfl ?_
      refine V_getR C ck_11 fw_X11_10 d_X11_classOf_30 h (fun v6 h => ?_)
      refine V_getR C ck_0 fw_X11_119 d_X11_classOf_33 h (fun v7 h => ?_)
      refine V_iload_n (j := 2) C d_X11_classOf_36 rfl rfl ?_
      refine V_iload_n (j := 3) C d_X11_classOf_37 rfl rfl ?_
      refine V_iast C d_X11_classOf_38 o_x1 o_x2 h (fun M8 h => ?_)
      refine V_iload_n (j := 0) C d_X11_classOf_39 rfl rfl ?_
      exact V_iret_w C hR d_X11_classOf_40 o5 h
set_option maxHeartbeats 4000000 in
set_option maxRecDepth 100000 in
theorem ct_X11_classOf {l : Launch} {G : GT_g} {M : Mem_m} (x0 : Nat) (x1 : Int) (x2 : Int) (o_x1 : ok_i x1) (o_x2 : ok_i x2) {z : (Mem_m × Int)} (h : f_X11_classOf G.2.2.2 M x0 x1 x2 = some z) : MI_ l yX11_classOf K_X11_classOf (some .int) G M [.ref (G.1 + x0), iv_i x1, iv_i x2] z.1 z.2 :=
  met_of (by decide +kernel) rfl (Nat.le_of_ble_eq_true rfl) (fun X hl C hR => by subst hl; exact t_X11_classOf C hR x0 x1 x2 o_x1 o_x2 h)
theorem d_X11_speaker_0 : decode cX11_speaker 0 = .ok (.iload_n 1, 1) := by decide +kernel
theorem d_X11_speaker_1 : decode cX11_speaker 1 = .ok (.bipush 8, 2) := by decide +kernel
theorem d_X11_speaker_3 : decode cX11_speaker 3 = .ok (.invokestatic 61, 3) := by decide +kernel
theorem d_X11_speaker_6 : decode cX11_speaker 6 = .ok (.ifCond .eq 28, 3) := by decide +kernel
theorem d_X11_speaker_9 : decode cX11_speaker 9 = .ok (.iload_n 2, 1) := by decide +kernel
theorem d_X11_speaker_10 : decode cX11_speaker 10 = .ok (.iconst 2, 1) := by decide +kernel
theorem d_X11_speaker_11 : decode cX11_speaker 11 = .ok (.invokestatic 61, 3) := by decide +kernel
theorem d_X11_speaker_14 : decode cX11_speaker 14 = .ok (.ifCond .eq 20, 3) := by decide +kernel
theorem d_X11_speaker_17 : decode cX11_speaker 17 = .ok (.iload_n 3, 1) := by decide +kernel
theorem d_X11_speaker_18 : decode cX11_speaker 18 = .ok (.iload_n 2, 1) := by decide +kernel
theorem d_X11_speaker_19 : decode cX11_speaker 19 = .ok (.ifCond .ne 7, 3) := by decide +kernel
theorem d_X11_speaker_22 : decode cX11_speaker 22 = .ok (.iconst 4, 1) := by decide +kernel
theorem d_X11_speaker_23 : decode cX11_speaker 23 = .ok (.goto 5, 3) := by decide +kernel
theorem d_X11_speaker_26 : decode cX11_speaker 26 = .ok (.bipush 100, 2) := by decide +kernel
theorem d_X11_speaker_28 : decode cX11_speaker 28 = .ok (.invokestatic 61, 3) := by decide +kernel
theorem d_X11_speaker_31 : decode cX11_speaker 31 = .ok (.ifCond .ne 5, 3) := by decide +kernel
theorem d_X11_speaker_34 : decode cX11_speaker 34 = .ok (.iconst (-1), 1) := by decide +kernel
theorem d_X11_speaker_35 : decode cX11_speaker 35 = .ok (.ireturn, 1) := by decide +kernel
theorem d_X11_speaker_36 : decode cX11_speaker 36 = .ok (.iload_n 2, 1) := by decide +kernel
theorem d_X11_speaker_37 : decode cX11_speaker 37 = .ok (.ifCond .ne 13, 3) := by decide +kernel
theorem d_X11_speaker_40 : decode cX11_speaker 40 = .ok (.aload_n 0, 1) := by decide +kernel
theorem d_X11_speaker_41 : decode cX11_speaker 41 = .ok (.getfield 10, 3) := by decide +kernel
theorem d_X11_speaker_44 : decode cX11_speaker 44 = .ok (.getfield 122, 3) := by decide +kernel
theorem d_X11_speaker_47 : decode cX11_speaker 47 = .ok (.goto 10, 3) := by decide +kernel
theorem d_X11_speaker_50 : decode cX11_speaker 50 = .ok (.aload_n 0, 1) := by decide +kernel
theorem d_X11_speaker_51 : decode cX11_speaker 51 = .ok (.getfield 10, 3) := by decide +kernel
theorem d_X11_speaker_54 : decode cX11_speaker 54 = .ok (.getfield 125, 3) := by decide +kernel
theorem d_X11_speaker_57 : decode cX11_speaker 57 = .ok (.astore 4, 2) := by decide +kernel
theorem d_X11_speaker_59 : decode cX11_speaker 59 = .ok (.aload 4, 2) := by decide +kernel
theorem d_X11_speaker_61 : decode cX11_speaker 61 = .ok (.iload_n 1, 1) := by decide +kernel
theorem d_X11_speaker_62 : decode cX11_speaker 62 = .ok (.iaload, 1) := by decide +kernel
theorem d_X11_speaker_63 : decode cX11_speaker 63 = .ok (.istore 5, 2) := by decide +kernel
theorem d_X11_speaker_65 : decode cX11_speaker 65 = .ok (.aload 4, 2) := by decide +kernel
theorem d_X11_speaker_67 : decode cX11_speaker 67 = .ok (.iload_n 1, 1) := by decide +kernel
theorem d_X11_speaker_68 : decode cX11_speaker 68 = .ok (.iload_n 3, 1) := by decide +kernel
theorem d_X11_speaker_69 : decode cX11_speaker 69 = .ok (.iastore, 1) := by decide +kernel
theorem d_X11_speaker_70 : decode cX11_speaker 70 = .ok (.iload 5, 2) := by decide +kernel
theorem d_X11_speaker_72 : decode cX11_speaker 72 = .ok (.ireturn, 1) := by decide +kernel
set_option maxHeartbeats 4000000 in
set_option maxRecDepth 100000 in
theorem t_X11_speaker_57 {X : XT_x} {G : GT_g} {z : (Mem_m × Int)} (C : Cx_ (K_X11_speaker) X G) (hR : Rx_ X G (some .int)) (M : Mem_m) (x1 : Int) (x3 : Int) (s0 : Nat) (o_x1 : ok_i x1) (o_x3 : ok_i x3) (h : f_X11_speaker_57 G.2.2.2 M x1 x3 s0 = some z) : V_ (K_X11_speaker) X G (Fq_ X G (Qi_ G z.1 z.2)) M 57 [(1, iv_i x1), (3, iv_i x3)] [.ref (G.1 + s0)] := by
  unfold f_X11_speaker_57 at h
  refine V_astore (lv' := [(4, .ref (G.1 + s0)), (1, iv_i x1), (3, iv_i x3)]) C d_X11_speaker_57 (by decide) rfl ?_
  refine V_aload (j := 0) C d_X11_speaker_59 rfl ?_
  refine V_iload_n (j := 1) C d_X11_speaker_61 rfl rfl ?_
  refine V_iald C d_X11_speaker_62 o_x1 h (fun v1 o1 h => ?_)
  refine V_istore (lv' := [(5, iv_i v1), (4, .ref (G.1 + s0)), (1, iv_i x1), (3, iv_i x3)]) C d_X11_speaker_63 (by decide) rfl ?_
  refine V_aload (j := 1) C d_X11_speaker_65 rfl ?_
  refine V_iload_n (j := 2) C d_X11_speaker_67 rfl rfl ?_
  refine V_iload_n (j := 3) C d_X11_speaker_68 rfl rfl ?_
  refine V_iast C d_X11_speaker_69 o_x1 o_x3 h (fun M2 h => ?_)
  refine V_iload (j := 0) C d_X11_speaker_70 rfl ?_
  exact V_iret_w C hR d_X11_speaker_72 o1 h
set_option maxHeartbeats 4000000 in
set_option maxRecDepth 100000 in
theorem t_X11_speaker_28 {X : XT_x} {G : GT_g} {z : (Mem_m × Int)} (C : Cx_ (K_X11_speaker) X G) (hR : Rx_ X G (some .int)) (M : Mem_m) (x0 : Nat) (x1 : Int) (x2 : Int) (x3 : Int) (s0 : Int) (s1 : Int) (o_x1 : ok_i x1) (o_x2 : ok_i x2) (o_x3 : ok_i x3) (o_s0 : ok_i s0) (o_s1 : ok_i s1) (h : f_X11_speaker_28 G.2.2.2 M x0 x1 x2 x3 s0 s1 = some z) : V_ (K_X11_speaker) X G (Fq_ X G (Qi_ G z.1 z.2)) M 28 [(0, .ref (G.1 + x0)), (1, iv_i x1), (2, iv_i x2), (3, iv_i x3)] [iv_i s0, iv_i s1] := by
  unfold f_X11_speaker_28 at h
  refine V_callSri (K' := K_X11_isIn) (av := [iv_i s1, iv_i s0]) (rest := []) ys_X11_isIn C (yk_X11_isIn) l1_X11_61 (by decide) d_X11_speaker_28 (fun v hv => ct_X11_isIn s1 s0 o_s1 o_s0 hv) rfl rfl (Nat.le_of_ble_eq_true rfl) h (fun v1 o1 h => ?_)
  refine V_if_ne (tgt := 36) C d_X11_speaker_31 (by decide) o1 h (fun h => ?_) (fun h => ?_)
  · skip
    refine V_iconst C d_X11_speaker_34 ?_
    exact V_iret_w C hR d_X11_speaker_35 (okc rfl) h
  · skip
    refine V_iload_n (j := 2) C d_X11_speaker_36 rfl rfl ?_
    refine V_if_ne (tgt := 50) C d_X11_speaker_37 (by decide) o_x2 h (fun h => ?_) (fun h => ?_)
    · skip
      refine V_aload_n (j := 0) C d_X11_speaker_40 rfl rfl ?_
      refine V_getR C ck_11 fw_X11_10 d_X11_speaker_41 h (fun v2 h => ?_)
      refine V_getR C ck_0 fw_X11_122 d_X11_speaker_44 h (fun v3 h => ?_)
      refine V_goto (tgt := 57) C d_X11_speaker_47 (by decide) ?_
      refine V_lv [1, 3] rfl (t_X11_speaker_57 C hR M x1 x3 v3 o_x1 o_x3 h)
    · skip
      refine V_aload_n (j := 0) C d_X11_speaker_50 rfl rfl ?_
      refine V_getR C ck_11 fw_X11_10 d_X11_speaker_51 h (fun v4 h => ?_)
      refine V_getR C ck_0 fw_X11_125 d_X11_speaker_54 h (fun v5 h => ?_)
      refine V_lv [1, 3] rfl (t_X11_speaker_57 C hR M x1 x3 v5 o_x1 o_x3 h)
set_option maxHeartbeats 4000000 in
set_option maxRecDepth 100000 in
theorem t_X11_speaker {X : XT_x} {G : GT_g} {M : Mem_m} {z : (Mem_m × Int)} (C : Cx_ (K_X11_speaker) X G) (hR : Rx_ X G (some .int)) (x0 : Nat) (x1 : Int) (x2 : Int) (x3 : Int) (o_x1 : ok_i x1) (o_x2 : ok_i x2) (o_x3 : ok_i x3) (h : f_X11_speaker G.2.2.2 M x0 x1 x2 x3 = some z) : V_ (K_X11_speaker) X G (Fq_ X G (Qi_ G z.1 z.2)) M 0 [(0, .ref (G.1 + x0)), (1, iv_i x1), (2, iv_i x2), (3, iv_i x3)] [] := by
  unfold f_X11_speaker at h
  refine V_iload_n (j := 1) C d_X11_speaker_0 rfl rfl ?_
  refine V_bipush (v := 8) C d_X11_speaker_1 rfl ?_
  refine V_callSri (K' := K_X11_isIn) (av := [iv_i x1, iv_i 8]) (rest := []) ys_X11_isIn C (yk_X11_isIn) l1_X11_61 (by decide) d_X11_speaker_3 (fun v hv => ct_X11_isIn x1 8 o_x1 (okc rfl) hv) rfl rfl (Nat.le_of_ble_eq_true rfl) h (fun v1 o1 h => ?_)
  refine V_if_eq (tgt := 34) C d_X11_speaker_6 (by decide) o1 h (fun h => ?_) (fun h => ?_)
  · skip
    refine V_iconst C d_X11_speaker_34 ?_
    exact V_iret_w C hR d_X11_speaker_35 (okc rfl) h
  · skip
    refine V_iload_n (j := 2) C d_X11_speaker_9 rfl rfl ?_
    refine V_iconst C d_X11_speaker_10 ?_
    refine V_callSri (K' := K_X11_isIn) (av := [iv_i x2, iv_i 2]) (rest := []) ys_X11_isIn C (yk_X11_isIn) l1_X11_61 (by decide) d_X11_speaker_11 (fun v hv => ct_X11_isIn x2 2 o_x2 (okc rfl) hv) rfl rfl (Nat.le_of_ble_eq_true rfl) h (fun v2 o2 h => ?_)
    refine V_if_eq (tgt := 34) C d_X11_speaker_14 (by decide) o2 h (fun h => ?_) (fun h => ?_)
    · skip
      refine V_iconst C d_X11_speaker_34 ?_
      exact V_iret_w C hR d_X11_speaker_35 (okc rfl) h
    · skip
      refine V_iload_n (j := 3) C d_X11_speaker_17 rfl rfl ?_
      refine V_iload_n (j := 2) C d_X11_speaker_18 rfl rfl ?_
      refine V_if_ne (tgt := 26) C d_X11_speaker_19 (by decide) o_x2 h (fun h => ?_) (fun h => ?_)
      · skip
        refine V_iconst C d_X11_speaker_22 ?_
        refine V_goto (tgt := 28) C d_X11_speaker_23 (by decide) ?_
        refine V_lv [0, 1, 2, 3] rfl (t_X11_speaker_28 C hR M x0 x1 x2 x3 4 x3 o_x1 o_x2 o_x3 (okc rfl) o_x3 h)
      · skip
        refine V_bipush (v := 100) C d_X11_speaker_26 rfl ?_
        refine V_lv [0, 1, 2, 3] rfl (t_X11_speaker_28 C hR M x0 x1 x2 x3 100 x3 o_x1 o_x2 o_x3 (okc rfl) o_x3 h)
set_option maxHeartbeats 4000000 in
set_option maxRecDepth 100000 in
theorem ct_X11_speaker {l : Launch} {G : GT_g} {M : Mem_m} (x0 : Nat) (x1 : Int) (x2 : Int) (x3 : Int) (o_x1 : ok_i x1) (o_x2 : ok_i x2) (o_x3 : ok_i x3) {z : (Mem_m × Int)} (h : f_X11_speaker G.2.2.2 M x0 x1 x2 x3 = some z) : MI_ l yX11_speaker K_X11_speaker (some .int) G M [.ref (G.1 + x0), iv_i x1, iv_i x2, iv_i x3] z.1 z.2 :=
  met_of (by decide +kernel) rfl (Nat.le_of_ble_eq_true rfl) (fun X hl C hR => by subst hl; exact t_X11_speaker C hR x0 x1 x2 x3 o_x1 o_x2 o_x3 h)
theorem d_X11_oneOrTwo_0 : decode cX11_oneOrTwo 0 = .ok (.iload_n 1, 1) := by decide +kernel
theorem d_X11_oneOrTwo_1 : decode cX11_oneOrTwo 1 = .ok (.bipush 10, 2) := by decide +kernel
theorem d_X11_oneOrTwo_3 : decode cX11_oneOrTwo 3 = .ok (.invokestatic 61, 3) := by decide +kernel
theorem d_X11_oneOrTwo_6 : decode cX11_oneOrTwo 6 = .ok (.ifCond .eq 17, 3) := by decide +kernel
theorem d_X11_oneOrTwo_9 : decode cX11_oneOrTwo 9 = .ok (.iload_n 2, 1) := by decide +kernel
theorem d_X11_oneOrTwo_10 : decode cX11_oneOrTwo 10 = .ok (.bipush 10, 2) := by decide +kernel
theorem d_X11_oneOrTwo_12 : decode cX11_oneOrTwo 12 = .ok (.invokestatic 61, 3) := by decide +kernel
theorem d_X11_oneOrTwo_15 : decode cX11_oneOrTwo 15 = .ok (.ifCond .eq 8, 3) := by decide +kernel
theorem d_X11_oneOrTwo_18 : decode cX11_oneOrTwo 18 = .ok (.iload_n 1, 1) := by decide +kernel
theorem d_X11_oneOrTwo_19 : decode cX11_oneOrTwo 19 = .ok (.iload_n 2, 1) := by decide +kernel
theorem d_X11_oneOrTwo_20 : decode cX11_oneOrTwo 20 = .ok (.if_icmp .ne 5, 3) := by decide +kernel
theorem d_X11_oneOrTwo_23 : decode cX11_oneOrTwo 23 = .ok (.iconst (-1), 1) := by decide +kernel
theorem d_X11_oneOrTwo_24 : decode cX11_oneOrTwo 24 = .ok (.ireturn, 1) := by decide +kernel
theorem d_X11_oneOrTwo_25 : decode cX11_oneOrTwo 25 = .ok (.aload_n 0, 1) := by decide +kernel
theorem d_X11_oneOrTwo_26 : decode cX11_oneOrTwo 26 = .ok (.getfield 10, 3) := by decide +kernel
theorem d_X11_oneOrTwo_29 : decode cX11_oneOrTwo 29 = .ok (.iload_n 1, 1) := by decide +kernel
theorem d_X11_oneOrTwo_30 : decode cX11_oneOrTwo 30 = .ok (.iload_n 2, 1) := by decide +kernel
theorem d_X11_oneOrTwo_31 : decode cX11_oneOrTwo 31 = .ok (.invokevirtual 128, 3) := by decide +kernel
theorem d_X11_oneOrTwo_34 : decode cX11_oneOrTwo 34 = .ok (.ifCond .eq 5, 3) := by decide +kernel
theorem d_X11_oneOrTwo_37 : decode cX11_oneOrTwo 37 = .ok (.iconst 2, 1) := by decide +kernel
theorem d_X11_oneOrTwo_38 : decode cX11_oneOrTwo 38 = .ok (.ireturn, 1) := by decide +kernel
theorem d_X11_oneOrTwo_39 : decode cX11_oneOrTwo 39 = .ok (.aload_n 0, 1) := by decide +kernel
theorem d_X11_oneOrTwo_40 : decode cX11_oneOrTwo 40 = .ok (.getfield 10, 3) := by decide +kernel
theorem d_X11_oneOrTwo_43 : decode cX11_oneOrTwo 43 = .ok (.iload_n 1, 1) := by decide +kernel
theorem d_X11_oneOrTwo_44 : decode cX11_oneOrTwo 44 = .ok (.iload_n 2, 1) := by decide +kernel
theorem d_X11_oneOrTwo_45 : decode cX11_oneOrTwo 45 = .ok (.invokevirtual 131, 3) := by decide +kernel
theorem d_X11_oneOrTwo_48 : decode cX11_oneOrTwo 48 = .ok (.ifCond .eq 7, 3) := by decide +kernel
theorem d_X11_oneOrTwo_51 : decode cX11_oneOrTwo 51 = .ok (.iconst 1, 1) := by decide +kernel
theorem d_X11_oneOrTwo_52 : decode cX11_oneOrTwo 52 = .ok (.goto 4, 3) := by decide +kernel
theorem d_X11_oneOrTwo_55 : decode cX11_oneOrTwo 55 = .ok (.iconst 0, 1) := by decide +kernel
theorem d_X11_oneOrTwo_56 : decode cX11_oneOrTwo 56 = .ok (.ireturn, 1) := by decide +kernel
set_option maxHeartbeats 4000000 in
set_option maxRecDepth 100000 in
theorem t_X11_oneOrTwo {X : XT_x} {G : GT_g} {M : Mem_m} {z : Int} (C : Cx_ (K_X11_oneOrTwo) X G) (hR : Rx_ X G (some .int)) (x0 : Nat) (x1 : Int) (x2 : Int) (o_x1 : ok_i x1) (o_x2 : ok_i x2) (h : f_X11_oneOrTwo G.2.2.2 M x0 x1 x2 = some z) : V_ (K_X11_oneOrTwo) X G (Fq_ X G (Qi_ G M z)) M 0 [(0, .ref (G.1 + x0)), (1, iv_i x1), (2, iv_i x2)] [] := by
  unfold f_X11_oneOrTwo at h
  refine V_iload_n (j := 1) C d_X11_oneOrTwo_0 rfl rfl ?_
  refine V_bipush (v := 10) C d_X11_oneOrTwo_1 rfl ?_
  refine V_callSri (K' := K_X11_isIn) (av := [iv_i x1, iv_i 10]) (rest := []) ys_X11_isIn C (yk_X11_isIn) l1_X11_61 (by decide) d_X11_oneOrTwo_3 (fun v hv => ct_X11_isIn x1 10 o_x1 (okc rfl) hv) rfl rfl (Nat.le_of_ble_eq_true rfl) h (fun v1 o1 h => ?_)
  refine V_if_eq (tgt := 23) C d_X11_oneOrTwo_6 (by decide) o1 h (fun h => ?_) (fun h => ?_)
  · skip
    refine V_iconst C d_X11_oneOrTwo_23 ?_
    exact V_iret_r C hR d_X11_oneOrTwo_24 (okc rfl) h
  · skip
    refine V_iload_n (j := 2) C d_X11_oneOrTwo_9 rfl rfl ?_
    refine V_bipush (v := 10) C d_X11_oneOrTwo_10 rfl ?_
    refine V_callSri (K' := K_X11_isIn) (av := [iv_i x2, iv_i 10]) (rest := []) ys_X11_isIn C (yk_X11_isIn) l1_X11_61 (by decide) d_X11_oneOrTwo_12 (fun v hv => ct_X11_isIn x2 10 o_x2 (okc rfl) hv) rfl rfl (Nat.le_of_ble_eq_true rfl) h (fun v2 o2 h => ?_)
    refine V_if_eq (tgt := 23) C d_X11_oneOrTwo_15 (by decide) o2 h (fun h => ?_) (fun h => ?_)
    · skip
      refine V_iconst C d_X11_oneOrTwo_23 ?_
      exact V_iret_r C hR d_X11_oneOrTwo_24 (okc rfl) h
    · skip
      refine V_iload_n (j := 1) C d_X11_oneOrTwo_18 rfl rfl ?_
      refine V_iload_n (j := 2) C d_X11_oneOrTwo_19 rfl rfl ?_
      refine V_icmp_ne (tgt := 25) C d_X11_oneOrTwo_20 (by decide) o_x1 o_x2 h (fun h => ?_) (fun h => ?_)
      · skip
        refine V_iconst C d_X11_oneOrTwo_23 ?_
        exact V_iret_r C hR d_X11_oneOrTwo_24 (okc rfl) h
      · skip
        refine V_aload_n (j := 0) C d_X11_oneOrTwo_25 rfl rfl ?_
        refine V_getR C ck_11 fw_X11_10 d_X11_oneOrTwo_26 h (fun v3 h => ?_)
        refine V_iload_n (j := 1) C d_X11_oneOrTwo_29 rfl rfl ?_
        refine V_iload_n (j := 2) C d_X11_oneOrTwo_30 rfl rfl ?_
        refine V_callVri (K' := K_X0_areTwo) (a := v3) (ci := 0) (av := [iv_i x1, iv_i x2]) (rest := []) yi_X0_areTwo (by decide) rfl C (yk_X0_areTwo) l1_X11_128 (by decide) d_X11_oneOrTwo_31 (fun v hv => ct_X0_areTwo v3 x1 x2 o_x1 o_x2 hv) rfl rfl (Nat.le_of_ble_eq_true rfl) h (fun v4 o4 h => ?_)
        refine V_if_eq (tgt := 39) C d_X11_oneOrTwo_34 (by decide) o4 h (fun h => ?_) (fun h => ?_)
        · skip
          refine V_aload_n (j := 0) C d_X11_oneOrTwo_39 rfl rfl ?_
          refine V_getR C ck_11 fw_X11_10 d_X11_oneOrTwo_40 h (fun v5 h => ?_)
          refine V_iload_n (j := 1) C d_X11_oneOrTwo_43 rfl rfl ?_
          refine V_iload_n (j := 2) C d_X11_oneOrTwo_44 rfl rfl ?_
          refine V_callVri (K' := K_X0_doMeet) (a := v5) (ci := 0) (av := [iv_i x1, iv_i x2]) (rest := []) yi_X0_doMeet (by decide) rfl C (yk_X0_doMeet) l1_X11_131 (by decide) d_X11_oneOrTwo_45 (fun v hv => ct_X0_doMeet v5 x1 x2 o_x1 o_x2 hv) rfl rfl (Nat.le_of_ble_eq_true rfl) h (fun v6 o6 h => ?_)
          refine V_if_eq (tgt := 55) C d_X11_oneOrTwo_48 (by decide) o6 h (fun h => ?_) (fun h => ?_)
          · skip
            refine V_iconst C d_X11_oneOrTwo_55 ?_
            exact V_iret_r C hR d_X11_oneOrTwo_56 (okc rfl) h
          · skip
            refine V_iconst C d_X11_oneOrTwo_51 ?_
            refine V_goto (tgt := 56) C d_X11_oneOrTwo_52 (by decide) ?_
            exact V_iret_r C hR d_X11_oneOrTwo_56 (okc rfl) h
        · skip
          refine V_iconst C d_X11_oneOrTwo_37 ?_
          exact V_iret_r C hR d_X11_oneOrTwo_38 (okc rfl) h
set_option maxHeartbeats 4000000 in
set_option maxRecDepth 100000 in
theorem ct_X11_oneOrTwo {l : Launch} {G : GT_g} {M : Mem_m} (x0 : Nat) (x1 : Int) (x2 : Int) (o_x1 : ok_i x1) (o_x2 : ok_i x2) {z : Int} (h : f_X11_oneOrTwo G.2.2.2 M x0 x1 x2 = some z) : MI_ l yX11_oneOrTwo K_X11_oneOrTwo (some .int) G M [.ref (G.1 + x0), iv_i x1, iv_i x2] M z :=
  met_of (by decide +kernel) rfl (Nat.le_of_ble_eq_true rfl) (fun X hl C hR => by subst hl; exact t_X11_oneOrTwo C hR x0 x1 x2 o_x1 o_x2 h)
theorem d_X11_note_0 : decode cX11_note 0 = .ok (.iload_n 1, 1) := by decide +kernel
theorem d_X11_note_1 : decode cX11_note 1 = .ok (.bipush 8, 2) := by decide +kernel
theorem d_X11_note_3 : decode cX11_note 3 = .ok (.invokestatic 61, 3) := by decide +kernel
theorem d_X11_note_6 : decode cX11_note 6 = .ok (.ifCond .eq 11, 3) := by decide +kernel
theorem d_X11_note_9 : decode cX11_note 9 = .ok (.iload_n 2, 1) := by decide +kernel
theorem d_X11_note_10 : decode cX11_note 10 = .ok (.iconst 5, 1) := by decide +kernel
theorem d_X11_note_11 : decode cX11_note 11 = .ok (.invokestatic 61, 3) := by decide +kernel
theorem d_X11_note_14 : decode cX11_note 14 = .ok (.ifCond .ne 5, 3) := by decide +kernel
theorem d_X11_note_17 : decode cX11_note 17 = .ok (.iconst (-1), 1) := by decide +kernel
theorem d_X11_note_18 : decode cX11_note 18 = .ok (.ireturn, 1) := by decide +kernel
theorem d_X11_note_19 : decode cX11_note 19 = .ok (.aload_n 0, 1) := by decide +kernel
theorem d_X11_note_20 : decode cX11_note 20 = .ok (.getfield 10, 3) := by decide +kernel
theorem d_X11_note_23 : decode cX11_note 23 = .ok (.getfield 136, 3) := by decide +kernel
theorem d_X11_note_26 : decode cX11_note 26 = .ok (.bipush 16, 2) := by decide +kernel
theorem d_X11_note_28 : decode cX11_note 28 = .ok (.if_icmp .lt 6, 3) := by decide +kernel
theorem d_X11_note_31 : decode cX11_note 31 = .ok (.bipush (-2), 2) := by decide +kernel
theorem d_X11_note_33 : decode cX11_note 33 = .ok (.ireturn, 1) := by decide +kernel
theorem d_X11_note_34 : decode cX11_note 34 = .ok (.aload_n 0, 1) := by decide +kernel
theorem d_X11_note_35 : decode cX11_note 35 = .ok (.getfield 21, 3) := by decide +kernel
theorem d_X11_note_38 : decode cX11_note 38 = .ok (.iload_n 1, 1) := by decide +kernel
theorem d_X11_note_39 : decode cX11_note 39 = .ok (.aaload, 1) := by decide +kernel
theorem d_X11_note_40 : decode cX11_note 40 = .ok (.iconst 1, 1) := by decide +kernel
theorem d_X11_note_41 : decode cX11_note 41 = .ok (.iconst 4, 1) := by decide +kernel
theorem d_X11_note_42 : decode cX11_note 42 = .ok (.invokevirtual 73, 3) := by decide +kernel
theorem d_X11_note_45 : decode cX11_note 45 = .ok (.istore_n 3, 1) := by decide +kernel
theorem d_X11_note_46 : decode cX11_note 46 = .ok (.iload_n 3, 1) := by decide +kernel
theorem d_X11_note_47 : decode cX11_note 47 = .ok (.ifCond .eq 5, 3) := by decide +kernel
theorem d_X11_note_50 : decode cX11_note 50 = .ok (.iload_n 3, 1) := by decide +kernel
theorem d_X11_note_51 : decode cX11_note 51 = .ok (.ireturn, 1) := by decide +kernel
theorem d_X11_note_52 : decode cX11_note 52 = .ok (.aload_n 0, 1) := by decide +kernel
theorem d_X11_note_53 : decode cX11_note 53 = .ok (.getfield 10, 3) := by decide +kernel
theorem d_X11_note_56 : decode cX11_note 56 = .ok (.getfield 136, 3) := by decide +kernel
theorem d_X11_note_59 : decode cX11_note 59 = .ok (.istore 4, 2) := by decide +kernel
theorem d_X11_note_61 : decode cX11_note 61 = .ok (.aload_n 0, 1) := by decide +kernel
theorem d_X11_note_62 : decode cX11_note 62 = .ok (.getfield 10, 3) := by decide +kernel
theorem d_X11_note_65 : decode cX11_note 65 = .ok (.getfield 139, 3) := by decide +kernel
theorem d_X11_note_68 : decode cX11_note 68 = .ok (.iload 4, 2) := by decide +kernel
theorem d_X11_note_70 : decode cX11_note 70 = .ok (.aaload, 1) := by decide +kernel
theorem d_X11_note_71 : decode cX11_note 71 = .ok (.iload 4, 2) := by decide +kernel
theorem d_X11_note_73 : decode cX11_note 73 = .ok (.iload_n 2, 1) := by decide +kernel
theorem d_X11_note_74 : decode cX11_note 74 = .ok (.aload_n 0, 1) := by decide +kernel
theorem d_X11_note_75 : decode cX11_note 75 = .ok (.getfield 21, 3) := by decide +kernel
theorem d_X11_note_78 : decode cX11_note 78 = .ok (.iload_n 1, 1) := by decide +kernel
theorem d_X11_note_79 : decode cX11_note 79 = .ok (.aaload, 1) := by decide +kernel
theorem d_X11_note_80 : decode cX11_note 80 = .ok (.invokevirtual 143, 3) := by decide +kernel
theorem d_X11_note_83 : decode cX11_note 83 = .ok (.aload_n 0, 1) := by decide +kernel
theorem d_X11_note_84 : decode cX11_note 84 = .ok (.getfield 10, 3) := by decide +kernel
theorem d_X11_note_87 : decode cX11_note 87 = .ok (.dup, 1) := by decide +kernel
theorem d_X11_note_88 : decode cX11_note 88 = .ok (.getfield 147, 3) := by decide +kernel
theorem d_X11_note_91 : decode cX11_note 91 = .ok (.iconst 1, 1) := by decide +kernel
theorem d_X11_note_92 : decode cX11_note 92 = .ok (.iload 4, 2) := by decide +kernel
theorem d_X11_note_94 : decode cX11_note 94 = .ok (.ishl, 1) := by decide +kernel
theorem d_X11_note_95 : decode cX11_note 95 = .ok (.ior, 1) := by decide +kernel
theorem d_X11_note_96 : decode cX11_note 96 = .ok (.putfield 147, 3) := by decide +kernel
theorem d_X11_note_99 : decode cX11_note 99 = .ok (.aload_n 0, 1) := by decide +kernel
theorem d_X11_note_100 : decode cX11_note 100 = .ok (.getfield 10, 3) := by decide +kernel
theorem d_X11_note_103 : decode cX11_note 103 = .ok (.dup, 1) := by decide +kernel
theorem d_X11_note_104 : decode cX11_note 104 = .ok (.getfield 136, 3) := by decide +kernel
theorem d_X11_note_107 : decode cX11_note 107 = .ok (.iconst 1, 1) := by decide +kernel
theorem d_X11_note_108 : decode cX11_note 108 = .ok (.iadd, 1) := by decide +kernel
theorem d_X11_note_109 : decode cX11_note 109 = .ok (.putfield 136, 3) := by decide +kernel
theorem d_X11_note_112 : decode cX11_note 112 = .ok (.iload 4, 2) := by decide +kernel
theorem d_X11_note_114 : decode cX11_note 114 = .ok (.ireturn, 1) := by decide +kernel
set_option maxHeartbeats 4000000 in
set_option maxRecDepth 100000 in
theorem t_X11_note {X : XT_x} {G : GT_g} {M : Mem_m} {z : (Mem_m × Int)} (C : Cx_ (K_X11_note) X G) (hR : Rx_ X G (some .int)) (x0 : Nat) (x1 : Int) (x2 : Int) (o_x1 : ok_i x1) (o_x2 : ok_i x2) (h : f_X11_note G.2.2.2 M x0 x1 x2 = some z) : V_ (K_X11_note) X G (Fq_ X G (Qi_ G z.1 z.2)) M 0 [(0, .ref (G.1 + x0)), (1, iv_i x1), (2, iv_i x2)] [] := by
  unfold f_X11_note at h
  refine V_iload_n (j := 1) C d_X11_note_0 rfl rfl ?_
  refine V_bipush (v := 8) C d_X11_note_1 rfl ?_
  refine V_callSri (K' := K_X11_isIn) (av := [iv_i x1, iv_i 8]) (rest := []) ys_X11_isIn C (yk_X11_isIn) l1_X11_61 (by decide) d_X11_note_3 (fun v hv => ct_X11_isIn x1 8 o_x1 (okc rfl) hv) rfl rfl (Nat.le_of_ble_eq_true rfl) h (fun v1 o1 h => ?_)
  refine V_if_eq (tgt := 17) C d_X11_note_6 (by decide) o1 h (fun h => ?_) (fun h => ?_)
  · skip
    refine V_iconst C d_X11_note_17 ?_
    exact V_iret_w C hR d_X11_note_18 (okc rfl) h
  · skip
    refine V_iload_n (j := 2) C d_X11_note_9 rfl rfl ?_
    refine V_iconst C d_X11_note_10 ?_
    refine V_callSri (K' := K_X11_isIn) (av := [iv_i x2, iv_i 5]) (rest := []) ys_X11_isIn C (yk_X11_isIn) l1_X11_61 (by decide) d_X11_note_11 (fun v hv => ct_X11_isIn x2 5 o_x2 (okc rfl) hv) rfl rfl (Nat.le_of_ble_eq_true rfl) h (fun v2 o2 h => ?_)
    refine V_if_ne (tgt := 19) C d_X11_note_14 (by decide) o2 h (fun h => ?_) (fun h => ?_)
    · skip
      refine V_iconst C d_X11_note_17 ?_
      exact V_iret_w C hR d_X11_note_18 (okc rfl) h
    · skip
      refine V_aload_n (j := 0) C d_X11_note_19 rfl rfl ?_
      refine V_getR C ck_11 fw_X11_10 d_X11_note_20 h (fun v3 h => ?_)
      refine V_getI C ck_0 fw_X11_136 d_X11_note_23 h (fun v4 o4 h => ?_)
      refine V_bipush (v := 16) C d_X11_note_26 rfl ?_
      refine V_icmp_lt (tgt := 34) C d_X11_note_28 (by decide) o4 (okc rfl) h (fun h => ?_) (fun h => ?_)
      · skip
        refine V_aload_n (j := 0) C d_X11_note_34 rfl rfl ?_
        refine V_getR C ck_11 fw_X11_21 d_X11_note_35 h (fun v5 h => ?_)
        refine V_iload_n (j := 1) C d_X11_note_38 rfl rfl ?_
        refine V_aald (t := 5) C tc_5 d_X11_note_39 o_x1 h (fun v6 h => ?_)
        refine V_iconst C d_X11_note_40 ?_
        refine V_iconst C d_X11_note_41 ?_
        refine V_callVri (K' := K_X9_refusalOfSounds) (a := v6) (ci := 9) (av := [iv_i 1, iv_i 4]) (rest := []) yi_X9_refusalOfSounds (by decide) rfl C (yk_X9_refusalOfSounds) l1_X11_73 (by decide) d_X11_note_42 (fun v hv => ct_X9_refusalOfSounds v6 1 4 (okc rfl) (okc rfl) hv) rfl rfl (Nat.le_of_ble_eq_true rfl) h (fun v7 o7 h => ?_)
        refine V_istore_n (lv' := [(3, iv_i v7), (0, .ref (G.1 + x0)), (1, iv_i x1), (2, iv_i x2)]) C d_X11_note_45 rfl (by decide) rfl ?_
        refine V_iload_n (j := 0) C d_X11_note_46 rfl rfl ?_
        refine V_if_eq (tgt := 52) C d_X11_note_47 (by decide) o7 h (fun h => ?_) (fun h => ?_)
        · skip
          refine V_aload_n (j := 1) C d_X11_note_52 rfl rfl ?_
          refine V_getR C ck_11 fw_X11_10 d_X11_note_53 h (fun v8 h => ?_)
          refine V_getI C ck_0 fw_X11_136 d_X11_note_56 h (fun v9 o9 h => ?_)
          refine V_istore (lv' := [(4, iv_i v9), (3, iv_i v7), (0, .ref (G.1 + x0)), (1, iv_i x1), (2, iv_i x2)]) C d_X11_note_59 (by decide) rfl ?_
          refine V_aload_n (j := 2) C d_X11_note_61 rfl rfl ?_
          refine V_getR C ck_11 fw_X11_10 d_X11_note_62 h (fun v10 h => ?_)
          refine V_getR C ck_0 fw_X11_139 d_X11_note_65 h (fun v11 h => ?_)
          refine V_iload (j := 0) C d_X11_note_68 rfl ?_
          refine V_aald (t := 1) C tc_1 d_X11_note_70 o9 h (fun v12 h => ?_)
          refine V_iload (j := 0) C d_X11_note_71 rfl ?_
          refine V_iload_n (j := 4) C d_X11_note_73 rfl rfl ?_
          refine V_aload_n (j := 2) C d_X11_note_74 rfl rfl ?_
          refine V_getR C ck_11 fw_X11_21 d_X11_note_75 h (fun v13 h => ?_)
          refine V_iload_n (j := 3) C d_X11_note_78 rfl rfl ?_
          refine V_aald (t := 5) C tc_5 d_X11_note_79 o_x1 h (fun v14 h => ?_)
          refine V_callVwv (K' := K_X5_become) (a := v12) (ci := 5) (av := [iv_i v9, iv_i x2, .ref (G.1 + v14)]) (rest := []) yi_X5_become (by decide) rfl C (yk_X5_become) l1_X11_143 (by decide) d_X11_note_80 (fun v hv => ct_X5_become v12 v9 x2 v14 o9 o_x2 hv) rfl rfl (Nat.le_of_ble_eq_true rfl) h (fun M15 h => ?_)
          refine V_aload_n (j := 2) C d_X11_note_83 rfl rfl ?_
          refine V_getR C ck_11 fw_X11_10 d_X11_note_84 h (fun v16 h => ?_)
          refine V_dup C d_X11_note_87 rfl ?_
          refine V_getI C ck_0 fw_X11_147 d_X11_note_88 h (fun v17 o17 h => ?_)
          refine V_iconst C d_X11_note_91 ?_
          refine V_iload (j := 0) C d_X11_note_92 rfl ?_
          refine V_ishl C d_X11_note_94 ?_
          refine V_ior C d_X11_note_95 ?_
          refine V_putI C ck_0 fw_X11_147 fp_0_7 d_X11_note_96 (ok_I _) h (fun M18 h => ?_)
          refine V_aload_n (j := 2) C d_X11_note_99 rfl rfl ?_
          refine V_getR C ck_11 fw_X11_10 d_X11_note_100 h (fun v19 h => ?_)
          refine V_dup C d_X11_note_103 rfl ?_
          refine V_getI C ck_0 fw_X11_136 d_X11_note_104 h (fun v20 o20 h => ?_)
          refine V_iconst C d_X11_note_107 ?_
          refine V_iadd C d_X11_note_108 ?_
          refine V_putI C ck_0 fw_X11_136 fp_0_6 d_X11_note_109 (ok_wr _) h (fun M21 h => ?_)
          refine V_iload (j := 0) C d_X11_note_112 rfl ?_
          exact V_iret_w C hR d_X11_note_114 o9 h
        · skip
          refine V_iload_n (j := 0) C d_X11_note_50 rfl rfl ?_
          exact V_iret_w C hR d_X11_note_51 o7 h
      · skip
        refine V_bipush (v := (-2)) C d_X11_note_31 rfl ?_
        exact V_iret_w C hR d_X11_note_33 (okc rfl) h
set_option maxHeartbeats 4000000 in
set_option maxRecDepth 100000 in
theorem ct_X11_note {l : Launch} {G : GT_g} {M : Mem_m} (x0 : Nat) (x1 : Int) (x2 : Int) (o_x1 : ok_i x1) (o_x2 : ok_i x2) {z : (Mem_m × Int)} (h : f_X11_note G.2.2.2 M x0 x1 x2 = some z) : MI_ l yX11_note K_X11_note (some .int) G M [.ref (G.1 + x0), iv_i x1, iv_i x2] z.1 z.2 :=
  met_of (by decide +kernel) rfl (Nat.le_of_ble_eq_true rfl) (fun X hl C hR => by subst hl; exact t_X11_note C hR x0 x1 x2 o_x1 o_x2 h)
theorem d_X11_use_0 : decode cX11_use 0 = .ok (.iload_n 1, 1) := by decide +kernel
theorem d_X11_use_1 : decode cX11_use 1 = .ok (.aload_n 0, 1) := by decide +kernel
theorem d_X11_use_2 : decode cX11_use 2 = .ok (.getfield 10, 3) := by decide +kernel
theorem d_X11_use_5 : decode cX11_use 5 = .ok (.getfield 136, 3) := by decide +kernel
theorem d_X11_use_8 : decode cX11_use 8 = .ok (.invokestatic 61, 3) := by decide +kernel
theorem d_X11_use_11 : decode cX11_use 11 = .ok (.ifCond .ne 5, 3) := by decide +kernel
theorem d_X11_use_14 : decode cX11_use 14 = .ok (.iconst (-1), 1) := by decide +kernel
theorem d_X11_use_15 : decode cX11_use 15 = .ok (.ireturn, 1) := by decide +kernel
theorem d_X11_use_16 : decode cX11_use 16 = .ok (.aload_n 0, 1) := by decide +kernel
theorem d_X11_use_17 : decode cX11_use 17 = .ok (.getfield 10, 3) := by decide +kernel
theorem d_X11_use_20 : decode cX11_use 20 = .ok (.getfield 147, 3) := by decide +kernel
theorem d_X11_use_23 : decode cX11_use 23 = .ok (.istore_n 3, 1) := by decide +kernel
theorem d_X11_use_24 : decode cX11_use 24 = .ok (.aload_n 0, 1) := by decide +kernel
theorem d_X11_use_25 : decode cX11_use 25 = .ok (.getfield 10, 3) := by decide +kernel
theorem d_X11_use_28 : decode cX11_use 28 = .ok (.iload_n 2, 1) := by decide +kernel
theorem d_X11_use_29 : decode cX11_use 29 = .ok (.ifCond .eq 11, 3) := by decide +kernel
theorem d_X11_use_32 : decode cX11_use 32 = .ok (.iload_n 3, 1) := by decide +kernel
theorem d_X11_use_33 : decode cX11_use 33 = .ok (.iconst 1, 1) := by decide +kernel
theorem d_X11_use_34 : decode cX11_use 34 = .ok (.iload_n 1, 1) := by decide +kernel
theorem d_X11_use_35 : decode cX11_use 35 = .ok (.ishl, 1) := by decide +kernel
theorem d_X11_use_36 : decode cX11_use 36 = .ok (.ior, 1) := by decide +kernel
theorem d_X11_use_37 : decode cX11_use 37 = .ok (.goto 10, 3) := by decide +kernel
theorem d_X11_use_40 : decode cX11_use 40 = .ok (.iload_n 3, 1) := by decide +kernel
theorem d_X11_use_41 : decode cX11_use 41 = .ok (.iconst 1, 1) := by decide +kernel
theorem d_X11_use_42 : decode cX11_use 42 = .ok (.iload_n 1, 1) := by decide +kernel
theorem d_X11_use_43 : decode cX11_use 43 = .ok (.ishl, 1) := by decide +kernel
theorem d_X11_use_44 : decode cX11_use 44 = .ok (.iconst (-1), 1) := by decide +kernel
theorem d_X11_use_45 : decode cX11_use 45 = .ok (.ixor, 1) := by decide +kernel
theorem d_X11_use_46 : decode cX11_use 46 = .ok (.iand, 1) := by decide +kernel
theorem d_X11_use_47 : decode cX11_use 47 = .ok (.putfield 147, 3) := by decide +kernel
theorem d_X11_use_50 : decode cX11_use 50 = .ok (.aload_n 0, 1) := by decide +kernel
theorem d_X11_use_51 : decode cX11_use 51 = .ok (.getfield 10, 3) := by decide +kernel
theorem d_X11_use_54 : decode cX11_use 54 = .ok (.getfield 147, 3) := by decide +kernel
theorem d_X11_use_57 : decode cX11_use 57 = .ok (.iload_n 3, 1) := by decide +kernel
theorem d_X11_use_58 : decode cX11_use 58 = .ok (.if_icmp .ne 7, 3) := by decide +kernel
theorem d_X11_use_61 : decode cX11_use 61 = .ok (.iconst 0, 1) := by decide +kernel
theorem d_X11_use_62 : decode cX11_use 62 = .ok (.goto 4, 3) := by decide +kernel
theorem d_X11_use_65 : decode cX11_use 65 = .ok (.iconst 1, 1) := by decide +kernel
theorem d_X11_use_66 : decode cX11_use 66 = .ok (.ireturn, 1) := by decide +kernel
set_option maxHeartbeats 4000000 in
set_option maxRecDepth 100000 in
theorem t_X11_use_47 {X : XT_x} {G : GT_g} {z : (Mem_m × Int)} (C : Cx_ (K_X11_use) X G) (hR : Rx_ X G (some .int)) (M : Mem_m) (x0 : Nat) (x3 : Int) (s0 : Int) (s1 : Nat) (o_x3 : ok_i x3) (o_s0 : ok_i s0) (h : f_X11_use_47 G.2.2.2 M x0 x3 s0 s1 = some z) : V_ (K_X11_use) X G (Fq_ X G (Qi_ G z.1 z.2)) M 47 [(0, .ref (G.1 + x0)), (3, iv_i x3)] [iv_i s0, .ref (G.1 + s1)] := by
  unfold f_X11_use_47 at h
  refine V_putI C ck_0 fw_X11_147 fp_0_7 d_X11_use_47 o_s0 h (fun M1 h => ?_)
  refine V_aload_n (j := 0) C d_X11_use_50 rfl rfl ?_
  refine V_getR C ck_11 fw_X11_10 d_X11_use_51 h (fun v2 h => ?_)
  refine V_getI C ck_0 fw_X11_147 d_X11_use_54 h (fun v3 o3 h => ?_)
  refine V_iload_n (j := 1) C d_X11_use_57 rfl rfl ?_
  refine V_icmp_ne (tgt := 65) C d_X11_use_58 (by decide) o3 o_x3 h (fun h => ?_) (fun h => ?_)
  · skip
    refine V_iconst C d_X11_use_61 ?_
    refine V_goto (tgt := 66) C d_X11_use_62 (by decide) ?_
    exact V_iret_w C hR d_X11_use_66 (okc rfl) h
  · skip
    refine V_iconst C d_X11_use_65 ?_
    exact V_iret_w C hR d_X11_use_66 (okc rfl) h
set_option maxHeartbeats 4000000 in
set_option maxRecDepth 100000 in
theorem t_X11_use {X : XT_x} {G : GT_g} {M : Mem_m} {z : (Mem_m × Int)} (C : Cx_ (K_X11_use) X G) (hR : Rx_ X G (some .int)) (x0 : Nat) (x1 : Int) (x2 : Int) (o_x1 : ok_i x1) (o_x2 : ok_i x2) (h : f_X11_use G.2.2.2 M x0 x1 x2 = some z) : V_ (K_X11_use) X G (Fq_ X G (Qi_ G z.1 z.2)) M 0 [(0, .ref (G.1 + x0)), (1, iv_i x1), (2, iv_i x2)] [] := by
  unfold f_X11_use at h
  refine V_iload_n (j := 1) C d_X11_use_0 rfl rfl ?_
  refine V_aload_n (j := 0) C d_X11_use_1 rfl rfl ?_
  refine V_getR C ck_11 fw_X11_10 d_X11_use_2 h (fun v1 h => ?_)
  refine V_getI C ck_0 fw_X11_136 d_X11_use_5 h (fun v2 o2 h => ?_)
  refine V_callSri (K' := K_X11_isIn) (av := [iv_i x1, iv_i v2]) (rest := []) ys_X11_isIn C (yk_X11_isIn) l1_X11_61 (by decide) d_X11_use_8 (fun v hv => ct_X11_isIn x1 v2 o_x1 o2 hv) rfl rfl (Nat.le_of_ble_eq_true rfl) h (fun v3 o3 h => ?_)
  refine V_if_ne (tgt := 16) C d_X11_use_11 (by decide) o3 h (fun h => ?_) (fun h => ?_)
  · skip
    refine V_iconst C d_X11_use_14 ?_
    exact V_iret_w C hR d_X11_use_15 (okc rfl) h
  · skip
    refine V_aload_n (j := 0) C d_X11_use_16 rfl rfl ?_
    refine V_getR C ck_11 fw_X11_10 d_X11_use_17 h (fun v4 h => ?_)
    refine V_getI C ck_0 fw_X11_147 d_X11_use_20 h (fun v5 o5 h => ?_)
    refine V_istore_n (lv' := [(3, iv_i v5), (0, .ref (G.1 + x0)), (1, iv_i x1), (2, iv_i x2)]) C d_X11_use_23 rfl (by decide) rfl ?_
    refine V_aload_n (j := 1) C d_X11_use_24 rfl rfl ?_
    refine V_getR C ck_11 fw_X11_10 d_X11_use_25 h (fun v6 h => ?_)
    refine V_iload_n (j := 3) C d_X11_use_28 rfl rfl ?_
    refine V_if_eq (tgt := 40) C d_X11_use_29 (by decide) o_x2 h (fun h => ?_) (fun h => ?_)
    · skip
      refine V_iload_n (j := 0) C d_X11_use_40 rfl rfl ?_
      refine V_iconst C d_X11_use_41 ?_
      refine V_iload_n (j := 2) C d_X11_use_42 rfl rfl ?_
      refine V_ishl C d_X11_use_43 ?_
      refine V_iconst C d_X11_use_44 ?_
      refine V_ixor C d_X11_use_45 ?_
      refine V_iand C d_X11_use_46 ?_
      refine V_lv [1, 0] rfl (t_X11_use_47 C hR M x0 v5 (an_i v5 (xo_i (sl_i 1 x1) (-1))) v6 o5 (ok_I _) h)
    · skip
      refine V_iload_n (j := 0) C d_X11_use_32 rfl rfl ?_
      refine V_iconst C d_X11_use_33 ?_
      refine V_iload_n (j := 2) C d_X11_use_34 rfl rfl ?_
      refine V_ishl C d_X11_use_35 ?_
      refine V_ior C d_X11_use_36 ?_
      refine V_goto (tgt := 47) C d_X11_use_37 (by decide) ?_
      refine V_lv [1, 0] rfl (t_X11_use_47 C hR M x0 v5 (or_i v5 (sl_i 1 x1)) v6 o5 (ok_I _) h)
set_option maxHeartbeats 4000000 in
set_option maxRecDepth 100000 in
theorem ct_X11_use {l : Launch} {G : GT_g} {M : Mem_m} (x0 : Nat) (x1 : Int) (x2 : Int) (o_x1 : ok_i x1) (o_x2 : ok_i x2) {z : (Mem_m × Int)} (h : f_X11_use G.2.2.2 M x0 x1 x2 = some z) : MI_ l yX11_use K_X11_use (some .int) G M [.ref (G.1 + x0), iv_i x1, iv_i x2] z.1 z.2 :=
  met_of (by decide +kernel) rfl (Nat.le_of_ble_eq_true rfl) (fun X hl C hR => by subst hl; exact t_X11_use C hR x0 x1 x2 o_x1 o_x2 h)
theorem d_X11_meaningOf_0 : decode cX11_meaningOf 0 = .ok (.sipush 1023, 3) := by decide +kernel
theorem d_X11_meaningOf_3 : decode cX11_meaningOf 3 = .ok (.istore_n 2, 1) := by decide +kernel
theorem d_X11_meaningOf_4 : decode cX11_meaningOf 4 = .ok (.iconst 0, 1) := by decide +kernel
theorem d_X11_meaningOf_5 : decode cX11_meaningOf 5 = .ok (.istore_n 3, 1) := by decide +kernel
theorem d_X11_meaningOf_6 : decode cX11_meaningOf 6 = .ok (.iconst 0, 1) := by decide +kernel
theorem d_X11_meaningOf_7 : decode cX11_meaningOf 7 = .ok (.istore 4, 2) := by decide +kernel
theorem d_X11_meaningOf_9 : decode cX11_meaningOf 9 = .ok (.iload 4, 2) := by decide +kernel
theorem d_X11_meaningOf_11 : decode cX11_meaningOf 11 = .ok (.aload_n 0, 1) := by decide +kernel
theorem d_X11_meaningOf_12 : decode cX11_meaningOf 12 = .ok (.getfield 10, 3) := by decide +kernel
theorem d_X11_meaningOf_15 : decode cX11_meaningOf 15 = .ok (.getfield 69, 3) := by decide +kernel
theorem d_X11_meaningOf_18 : decode cX11_meaningOf 18 = .ok (.if_icmp .ge 75, 3) := by decide +kernel
theorem d_X11_meaningOf_21 : decode cX11_meaningOf 21 = .ok (.aload_n 0, 1) := by decide +kernel
theorem d_X11_meaningOf_22 : decode cX11_meaningOf 22 = .ok (.getfield 10, 3) := by decide +kernel
theorem d_X11_meaningOf_25 : decode cX11_meaningOf 25 = .ok (.getfield 77, 3) := by decide +kernel
theorem d_X11_meaningOf_28 : decode cX11_meaningOf 28 = .ok (.iload 4, 2) := by decide +kernel
theorem d_X11_meaningOf_30 : decode cX11_meaningOf 30 = .ok (.aaload, 1) := by decide +kernel
theorem d_X11_meaningOf_31 : decode cX11_meaningOf 31 = .ok (.astore 5, 2) := by decide +kernel
theorem d_X11_meaningOf_33 : decode cX11_meaningOf 33 = .ok (.aload 5, 2) := by decide +kernel
theorem d_X11_meaningOf_35 : decode cX11_meaningOf 35 = .ok (.invokevirtual 278, 3) := by decide +kernel
theorem d_X11_meaningOf_38 : decode cX11_meaningOf 38 = .ok (.ifCond .eq 49, 3) := by decide +kernel
theorem d_X11_meaningOf_41 : decode cX11_meaningOf 41 = .ok (.aload 5, 2) := by decide +kernel
theorem d_X11_meaningOf_43 : decode cX11_meaningOf 43 = .ok (.getfield 93, 3) := by decide +kernel
theorem d_X11_meaningOf_46 : decode cX11_meaningOf 46 = .ok (.ifCond .eq 41, 3) := by decide +kernel
theorem d_X11_meaningOf_49 : decode cX11_meaningOf 49 = .ok (.aload_n 0, 1) := by decide +kernel
theorem d_X11_meaningOf_50 : decode cX11_meaningOf 50 = .ok (.getfield 28, 3) := by decide +kernel
theorem d_X11_meaningOf_53 : decode cX11_meaningOf 53 = .ok (.aload_n 0, 1) := by decide +kernel
theorem d_X11_meaningOf_54 : decode cX11_meaningOf 54 = .ok (.getfield 10, 3) := by decide +kernel
theorem d_X11_meaningOf_57 : decode cX11_meaningOf 57 = .ok (.aload 5, 2) := by decide +kernel
theorem d_X11_meaningOf_59 : decode cX11_meaningOf 59 = .ok (.invokevirtual 158, 3) := by decide +kernel
theorem d_X11_meaningOf_62 : decode cX11_meaningOf 62 = .ok (.aload_n 0, 1) := by decide +kernel
theorem d_X11_meaningOf_63 : decode cX11_meaningOf 63 = .ok (.getfield 28, 3) := by decide +kernel
theorem d_X11_meaningOf_66 : decode cX11_meaningOf 66 = .ok (.getfield 285, 3) := by decide +kernel
theorem d_X11_meaningOf_69 : decode cX11_meaningOf 69 = .ok (.iload_n 1, 1) := by decide +kernel
theorem d_X11_meaningOf_70 : decode cX11_meaningOf 70 = .ok (.ishr, 1) := by decide +kernel
theorem d_X11_meaningOf_71 : decode cX11_meaningOf 71 = .ok (.iconst 1, 1) := by decide +kernel
theorem d_X11_meaningOf_72 : decode cX11_meaningOf 72 = .ok (.iand, 1) := by decide +kernel
theorem d_X11_meaningOf_73 : decode cX11_meaningOf 73 = .ok (.iconst 1, 1) := by decide +kernel
theorem d_X11_meaningOf_74 : decode cX11_meaningOf 74 = .ok (.if_icmp .ne 13, 3) := by decide +kernel
theorem d_X11_meaningOf_77 : decode cX11_meaningOf 77 = .ok (.iload_n 2, 1) := by decide +kernel
theorem d_X11_meaningOf_78 : decode cX11_meaningOf 78 = .ok (.aload 5, 2) := by decide +kernel
theorem d_X11_meaningOf_80 : decode cX11_meaningOf 80 = .ok (.getfield 93, 3) := by decide +kernel
theorem d_X11_meaningOf_83 : decode cX11_meaningOf 83 = .ok (.iand, 1) := by decide +kernel
theorem d_X11_meaningOf_84 : decode cX11_meaningOf 84 = .ok (.istore_n 2, 1) := by decide +kernel
theorem d_X11_meaningOf_85 : decode cX11_meaningOf 85 = .ok (.iconst 1, 1) := by decide +kernel
theorem d_X11_meaningOf_86 : decode cX11_meaningOf 86 = .ok (.istore_n 3, 1) := by decide +kernel
theorem d_X11_meaningOf_87 : decode cX11_meaningOf 87 = .ok (.iinc 4 1, 3) := by decide +kernel
theorem d_X11_meaningOf_90 : decode cX11_meaningOf 90 = .ok (.goto (-81), 3) := by decide +kernel
theorem d_X11_meaningOf_93 : decode cX11_meaningOf 93 = .ok (.iload_n 3, 1) := by decide +kernel
theorem d_X11_meaningOf_94 : decode cX11_meaningOf 94 = .ok (.ifCond .eq 7, 3) := by decide +kernel
theorem d_X11_meaningOf_97 : decode cX11_meaningOf 97 = .ok (.iload_n 2, 1) := by decide +kernel
theorem d_X11_meaningOf_98 : decode cX11_meaningOf 98 = .ok (.goto 5, 3) := by decide +kernel
theorem d_X11_meaningOf_101 : decode cX11_meaningOf 101 = .ok (.bipush (-4), 2) := by decide +kernel
theorem d_X11_meaningOf_103 : decode cX11_meaningOf 103 = .ok (.ireturn, 1) := by decide +kernel
set_option maxHeartbeats 4000000 in
set_option maxRecDepth 100000 in
theorem t_X11_meaningOf_9 {X : XT_x} {G : GT_g} {z : (Mem_m × Int)} (C : Cx_ (K_X11_meaningOf) X G) (hR : Rx_ X G (some .int)) (x0 : Nat) (x1 : Int) (o_x1 : ok_i x1) : ∀ (n : Nat) (M : Mem_m) (x2 : Int) (x3 : Int) (x4 : Int) (o_x2 : ok_i x2) (o_x3 : ok_i x3) (o_x4 : ok_i x4), f_X11_meaningOf_9 G.2.2.2 x0 x1 n M x2 x3 x4 = some z → V_ (K_X11_meaningOf) X G (Fq_ X G (Qi_ G z.1 z.2)) M 9 [(0, .ref (G.1 + x0)), (1, iv_i x1), (2, iv_i x2), (3, iv_i x3), (4, iv_i x4)] [] := by
  intro n
  induction n with
  | zero => intro M x2 x3 x4 o_x2 o_x3 o_x4 h; exact absurd h (by simp [f_X11_meaningOf_9])
  | succ n ih =>
    intro M x2 x3 x4 o_x2 o_x3 o_x4 h
    unfold f_X11_meaningOf_9 at h
    refine V_iload (j := 4) C d_X11_meaningOf_9 rfl ?_
    refine V_aload_n (j := 0) C d_X11_meaningOf_11 rfl rfl ?_
    refine V_getR C ck_11 fw_X11_10 d_X11_meaningOf_12 h (fun v1 h => ?_)
    refine V_getI C ck_0 fw_X11_69 d_X11_meaningOf_15 h (fun v2 o2 h => ?_)
    refine V_icmp_ge (tgt := 93) C d_X11_meaningOf_18 (by decide) o_x4 o2 h (fun h => ?_) (fun h => ?_)
    · skip
      refine V_aload_n (j := 0) C d_X11_meaningOf_21 rfl rfl ?_
      refine V_getR C ck_11 fw_X11_10 d_X11_meaningOf_22 h (fun v3 h => ?_)
      refine V_getR C ck_0 fw_X11_77 d_X11_meaningOf_25 h (fun v4 h => ?_)
      refine V_iload (j := 4) C d_X11_meaningOf_28 rfl ?_
      refine V_aald (t := 0) C tc_0 d_X11_meaningOf_30 o_x4 h (fun v5 h => ?_)
      refine V_astore (lv' := [(5, .ref (G.1 + v5)), (0, .ref (G.1 + x0)), (1, iv_i x1), (2, iv_i x2), (3, iv_i x3), (4, iv_i x4)]) C d_X11_meaningOf_31 (by decide) rfl ?_
      refine V_aload (j := 0) C d_X11_meaningOf_33 rfl ?_
      refine V_callVri (K' := K_X1_isCounted) (a := v5) (ci := 1) (av := []) (rest := []) yi_X1_isCounted (by decide) rfl C (yk_X1_isCounted) l1_X11_278 (by decide) d_X11_meaningOf_35 (fun v hv => ct_X1_isCounted v5 hv) rfl rfl (Nat.le_of_ble_eq_true rfl) h (fun v6 o6 h => ?_)
      refine V_if_eq (tgt := 87) C d_X11_meaningOf_38 (by decide) o6 h (fun h => ?_) (fun h => ?_)
      · skip
        refine V_iinc (j := 5) (lv' := [(4, iv_i (wr_i (x4 + 1))), (5, .ref (G.1 + v5)), (0, .ref (G.1 + x0)), (1, iv_i x1), (2, iv_i x2), (3, iv_i x3)]) C d_X11_meaningOf_87 rfl (by decide) rfl ?_
        refine V_goto (tgt := 9) C d_X11_meaningOf_90 (by decide) ?_
        refine V_lv [2, 3, 4, 5, 0] rfl (ih M x2 x3 (wr_i (x4 + 1)) o_x2 o_x3 (ok_wr _) h)
      · skip
        refine V_aload (j := 0) C d_X11_meaningOf_41 rfl ?_
        refine V_getI C ck_1 fw_X11_93 d_X11_meaningOf_43 h (fun v7 o7 h => ?_)
        refine V_if_eq (tgt := 87) C d_X11_meaningOf_46 (by decide) o7 h (fun h => ?_) (fun h => ?_)
        · skip
          refine V_iinc (j := 5) (lv' := [(4, iv_i (wr_i (x4 + 1))), (5, .ref (G.1 + v5)), (0, .ref (G.1 + x0)), (1, iv_i x1), (2, iv_i x2), (3, iv_i x3)]) C d_X11_meaningOf_87 rfl (by decide) rfl ?_
          refine V_goto (tgt := 9) C d_X11_meaningOf_90 (by decide) ?_
          refine V_lv [2, 3, 4, 5, 0] rfl (ih M x2 x3 (wr_i (x4 + 1)) o_x2 o_x3 (ok_wr _) h)
        · skip
          refine V_aload_n (j := 1) C d_X11_meaningOf_49 rfl rfl ?_
          refine V_getR C ck_11 fw_X11_28 d_X11_meaningOf_50 h (fun v8 h => ?_)
          refine V_aload_n (j := 1) C d_X11_meaningOf_53 rfl rfl ?_
          refine V_getR C ck_11 fw_X11_10 d_X11_meaningOf_54 h (fun v9 h => ?_)
          refine V_aload (j := 0) C d_X11_meaningOf_57 rfl ?_
          refine V_callVwv (K' := K_X2_cutUp) (a := v8) (ci := 2) (av := [.ref (G.1 + v9), .ref (G.1 + v5)]) (rest := []) yi_X2_cutUp (by decide) rfl C (yk_X2_cutUp) l1_X11_158 (by decide) d_X11_meaningOf_59 (fun v hv => ct_X2_cutUp v8 v9 v5 hv) rfl rfl (Nat.le_of_ble_eq_true rfl) h (fun M10 h => ?_)
          refine V_aload_n (j := 1) C d_X11_meaningOf_62 rfl rfl ?_
          refine V_getR C ck_11 fw_X11_28 d_X11_meaningOf_63 h (fun v11 h => ?_)
          refine V_getI C ck_2 fw_X11_285 d_X11_meaningOf_66 h (fun v12 o12 h => ?_)
          refine V_iload_n (j := 2) C d_X11_meaningOf_69 rfl rfl ?_
          refine V_ishr C d_X11_meaningOf_70 ?_
          refine V_iconst C d_X11_meaningOf_71 ?_
          refine V_iand C d_X11_meaningOf_72 ?_
          refine V_iconst C d_X11_meaningOf_73 ?_
          refine V_icmp_ne (tgt := 87) C d_X11_meaningOf_74 (by decide) (ok_I _) (okc rfl) h (fun h => ?_) (fun h => ?_)
          · skip
            refine V_iload_n (j := 3) C d_X11_meaningOf_77 rfl rfl ?_
            refine V_aload (j := 0) C d_X11_meaningOf_78 rfl ?_
            refine V_getI C ck_1 fw_X11_93 d_X11_meaningOf_80 h (fun v13 o13 h => ?_)
            refine V_iand C d_X11_meaningOf_83 ?_
            refine V_istore_n (lv' := [(2, iv_i (an_i x2 v13)), (5, .ref (G.1 + v5)), (0, .ref (G.1 + x0)), (1, iv_i x1), (3, iv_i x3), (4, iv_i x4)]) C d_X11_meaningOf_84 rfl (by decide) rfl ?_
            refine V_iconst C d_X11_meaningOf_85 ?_
            refine V_istore_n (lv' := [(3, iv_i 1), (2, iv_i (an_i x2 v13)), (5, .ref (G.1 + v5)), (0, .ref (G.1 + x0)), (1, iv_i x1), (4, iv_i x4)]) C d_X11_meaningOf_86 rfl (by decide) rfl ?_
            refine V_iinc (j := 5) (lv' := [(4, iv_i (wr_i (x4 + 1))), (3, iv_i 1), (2, iv_i (an_i x2 v13)), (5, .ref (G.1 + v5)), (0, .ref (G.1 + x0)), (1, iv_i x1)]) C d_X11_meaningOf_87 rfl (by decide) rfl ?_
            refine V_goto (tgt := 9) C d_X11_meaningOf_90 (by decide) ?_
            refine V_lv [4, 5, 2, 1, 0] rfl (ih M10 (an_i x2 v13) 1 (wr_i (x4 + 1)) (ok_I _) (okc rfl) (ok_wr _) h)
          · skip
            refine V_iinc (j := 5) (lv' := [(4, iv_i (wr_i (x4 + 1))), (5, .ref (G.1 + v5)), (0, .ref (G.1 + x0)), (1, iv_i x1), (2, iv_i x2), (3, iv_i x3)]) C d_X11_meaningOf_87 rfl (by decide) rfl ?_
            refine V_goto (tgt := 9) C d_X11_meaningOf_90 (by decide) ?_
            refine V_lv [2, 3, 4, 5, 0] rfl (ih M10 x2 x3 (wr_i (x4 + 1)) o_x2 o_x3 (ok_wr _) h)
    · skip
      refine V_iload_n (j := 3) C d_X11_meaningOf_93 rfl rfl ?_
      refine V_if_eq (tgt := 101) C d_X11_meaningOf_94 (by decide) o_x3 h (fun h => ?_) (fun h => ?_)
      · skip
        refine V_bipush (v := (-4)) C d_X11_meaningOf_101 rfl ?_
        exact V_iret_w C hR d_X11_meaningOf_103 (okc rfl) h
      · skip
        refine V_iload_n (j := 2) C d_X11_meaningOf_97 rfl rfl ?_
        refine V_goto (tgt := 103) C d_X11_meaningOf_98 (by decide) ?_
        exact V_iret_w C hR d_X11_meaningOf_103 o_x2 h
set_option maxHeartbeats 4000000 in
set_option maxRecDepth 100000 in
theorem t_X11_meaningOf {X : XT_x} {G : GT_g} {M : Mem_m} {z : (Mem_m × Int)} (C : Cx_ (K_X11_meaningOf) X G) (hR : Rx_ X G (some .int)) (x0 : Nat) (x1 : Int) (o_x1 : ok_i x1) (h : f_X11_meaningOf G.2.2.2 M x0 x1 = some z) : V_ (K_X11_meaningOf) X G (Fq_ X G (Qi_ G z.1 z.2)) M 0 [(0, .ref (G.1 + x0)), (1, iv_i x1)] [] := by
  unfold f_X11_meaningOf at h
  refine V_sipush (v := 1023) C d_X11_meaningOf_0 rfl ?_
  refine V_istore_n (lv' := [(2, iv_i 1023), (0, .ref (G.1 + x0)), (1, iv_i x1)]) C d_X11_meaningOf_3 rfl (by decide) rfl ?_
  refine V_iconst C d_X11_meaningOf_4 ?_
  refine V_istore_n (lv' := [(3, iv_i 0), (2, iv_i 1023), (0, .ref (G.1 + x0)), (1, iv_i x1)]) C d_X11_meaningOf_5 rfl (by decide) rfl ?_
  refine V_iconst C d_X11_meaningOf_6 ?_
  refine V_istore (lv' := [(4, iv_i 0), (3, iv_i 0), (2, iv_i 1023), (0, .ref (G.1 + x0)), (1, iv_i x1)]) C d_X11_meaningOf_7 (by decide) rfl ?_
  refine V_lv [3, 4, 2, 1, 0] rfl (t_X11_meaningOf_9 C hR x0 x1 o_x1 FU_ M 1023 0 0 (okc rfl) (okc rfl) (okc rfl) h)
set_option maxHeartbeats 4000000 in
set_option maxRecDepth 100000 in
theorem ct_X11_meaningOf {l : Launch} {G : GT_g} {M : Mem_m} (x0 : Nat) (x1 : Int) (o_x1 : ok_i x1) {z : (Mem_m × Int)} (h : f_X11_meaningOf G.2.2.2 M x0 x1 = some z) : MI_ l yX11_meaningOf K_X11_meaningOf (some .int) G M [.ref (G.1 + x0), iv_i x1] z.1 z.2 :=
  met_of (by decide +kernel) rfl (Nat.le_of_ble_eq_true rfl) (fun X hl C hR => by subst hl; exact t_X11_meaningOf C hR x0 x1 o_x1 h)
theorem d_X11_told_0 : decode cX11_told 0 = .ok (.iload_n 1, 1) := by decide +kernel
theorem d_X11_told_1 : decode cX11_told 1 = .ok (.aload_n 0, 1) := by decide +kernel
theorem d_X11_told_2 : decode cX11_told 2 = .ok (.getfield 10, 3) := by decide +kernel
theorem d_X11_told_5 : decode cX11_told 5 = .ok (.getfield 136, 3) := by decide +kernel
theorem d_X11_told_8 : decode cX11_told 8 = .ok (.invokestatic 61, 3) := by decide +kernel
theorem d_X11_told_11 : decode cX11_told 11 = .ok (.ifCond .eq 11, 3) := by decide +kernel
theorem d_X11_told_14 : decode cX11_told 14 = .ok (.iload_n 2, 1) := by decide +kernel
theorem d_X11_told_15 : decode cX11_told 15 = .ok (.iconst 2, 1) := by decide +kernel
theorem d_X11_told_16 : decode cX11_told 16 = .ok (.invokestatic 61, 3) := by decide +kernel
theorem d_X11_told_19 : decode cX11_told 19 = .ok (.ifCond .ne 5, 3) := by decide +kernel
theorem d_X11_told_22 : decode cX11_told 22 = .ok (.iconst (-1), 1) := by decide +kernel
theorem d_X11_told_23 : decode cX11_told 23 = .ok (.ireturn, 1) := by decide +kernel
theorem d_X11_told_24 : decode cX11_told 24 = .ok (.iload_n 2, 1) := by decide +kernel
theorem d_X11_told_25 : decode cX11_told 25 = .ok (.ifCond .ne 18, 3) := by decide +kernel
theorem d_X11_told_28 : decode cX11_told 28 = .ok (.aload_n 0, 1) := by decide +kernel
theorem d_X11_told_29 : decode cX11_told 29 = .ok (.getfield 10, 3) := by decide +kernel
theorem d_X11_told_32 : decode cX11_told 32 = .ok (.getfield 139, 3) := by decide +kernel
theorem d_X11_told_35 : decode cX11_told 35 = .ok (.iload_n 1, 1) := by decide +kernel
theorem d_X11_told_36 : decode cX11_told 36 = .ok (.aaload, 1) := by decide +kernel
theorem d_X11_told_37 : decode cX11_told 37 = .ok (.invokevirtual 150, 3) := by decide +kernel
theorem d_X11_told_40 : decode cX11_told 40 = .ok (.goto 8, 3) := by decide +kernel
theorem d_X11_told_43 : decode cX11_told 43 = .ok (.aload_n 0, 1) := by decide +kernel
theorem d_X11_told_44 : decode cX11_told 44 = .ok (.iload_n 1, 1) := by decide +kernel
theorem d_X11_told_45 : decode cX11_told 45 = .ok (.invokevirtual 154, 3) := by decide +kernel
theorem d_X11_told_48 : decode cX11_told 48 = .ok (.ireturn, 1) := by decide +kernel
set_option maxHeartbeats 4000000 in
set_option maxRecDepth 100000 in
theorem t_X11_told {X : XT_x} {G : GT_g} {M : Mem_m} {z : (Mem_m × Int)} (C : Cx_ (K_X11_told) X G) (hR : Rx_ X G (some .int)) (x0 : Nat) (x1 : Int) (x2 : Int) (o_x1 : ok_i x1) (o_x2 : ok_i x2) (h : f_X11_told G.2.2.2 M x0 x1 x2 = some z) : V_ (K_X11_told) X G (Fq_ X G (Qi_ G z.1 z.2)) M 0 [(0, .ref (G.1 + x0)), (1, iv_i x1), (2, iv_i x2)] [] := by
  unfold f_X11_told at h
  refine V_iload_n (j := 1) C d_X11_told_0 rfl rfl ?_
  refine V_aload_n (j := 0) C d_X11_told_1 rfl rfl ?_
  refine V_getR C ck_11 fw_X11_10 d_X11_told_2 h (fun v1 h => ?_)
  refine V_getI C ck_0 fw_X11_136 d_X11_told_5 h (fun v2 o2 h => ?_)
  refine V_callSri (K' := K_X11_isIn) (av := [iv_i x1, iv_i v2]) (rest := []) ys_X11_isIn C (yk_X11_isIn) l1_X11_61 (by decide) d_X11_told_8 (fun v hv => ct_X11_isIn x1 v2 o_x1 o2 hv) rfl rfl (Nat.le_of_ble_eq_true rfl) h (fun v3 o3 h => ?_)
  refine V_if_eq (tgt := 22) C d_X11_told_11 (by decide) o3 h (fun h => ?_) (fun h => ?_)
  · skip
    refine V_iconst C d_X11_told_22 ?_
    exact V_iret_w C hR d_X11_told_23 (okc rfl) h
  · skip
    refine V_iload_n (j := 2) C d_X11_told_14 rfl rfl ?_
    refine V_iconst C d_X11_told_15 ?_
    refine V_callSri (K' := K_X11_isIn) (av := [iv_i x2, iv_i 2]) (rest := []) ys_X11_isIn C (yk_X11_isIn) l1_X11_61 (by decide) d_X11_told_16 (fun v hv => ct_X11_isIn x2 2 o_x2 (okc rfl) hv) rfl rfl (Nat.le_of_ble_eq_true rfl) h (fun v4 o4 h => ?_)
    refine V_if_ne (tgt := 24) C d_X11_told_19 (by decide) o4 h (fun h => ?_) (fun h => ?_)
    · skip
      refine V_iconst C d_X11_told_22 ?_
      exact V_iret_w C hR d_X11_told_23 (okc rfl) h
    · skip
      refine V_iload_n (j := 2) C d_X11_told_24 rfl rfl ?_
      refine V_if_ne (tgt := 43) C d_X11_told_25 (by decide) o_x2 h (fun h => ?_) (fun h => ?_)
      · skip
        refine V_aload_n (j := 0) C d_X11_told_28 rfl rfl ?_
        refine V_getR C ck_11 fw_X11_10 d_X11_told_29 h (fun v5 h => ?_)
        refine V_getR C ck_0 fw_X11_139 d_X11_told_32 h (fun v6 h => ?_)
        refine V_iload_n (j := 1) C d_X11_told_35 rfl rfl ?_
        refine V_aald (t := 1) C tc_1 d_X11_told_36 o_x1 h (fun v7 h => ?_)
        refine V_callVri (K' := K_X5_lengthTold) (a := v7) (ci := 5) (av := []) (rest := []) yi_X5_lengthTold (by decide) rfl C (yk_X5_lengthTold) l1_X11_150 (by decide) d_X11_told_37 (fun v hv => ct_X5_lengthTold v7 hv) rfl rfl (Nat.le_of_ble_eq_true rfl) h (fun v8 o8 h => ?_)
        refine V_goto (tgt := 48) C d_X11_told_40 (by decide) ?_
        exact V_iret_w C hR d_X11_told_48 o8 h
      · skip
        refine V_aload_n (j := 0) C d_X11_told_43 rfl rfl ?_
        refine V_iload_n (j := 1) C d_X11_told_44 rfl rfl ?_
        refine V_callVwi (K' := K_X11_meaningOf) (a := x0) (ci := 11) (av := [iv_i x1]) (rest := []) yi_X11_meaningOf (by decide) rfl C (yk_X11_meaningOf) l1_X11_154 (by decide) d_X11_told_45 (fun v hv => ct_X11_meaningOf x0 x1 o_x1 hv) rfl rfl (Nat.le_of_ble_eq_true rfl) h (fun z9 o9 h => ?_)
        exact V_iret_w C hR d_X11_told_48 o9 h
set_option maxHeartbeats 4000000 in
set_option maxRecDepth 100000 in
theorem ct_X11_told {l : Launch} {G : GT_g} {M : Mem_m} (x0 : Nat) (x1 : Int) (x2 : Int) (o_x1 : ok_i x1) (o_x2 : ok_i x2) {z : (Mem_m × Int)} (h : f_X11_told G.2.2.2 M x0 x1 x2 = some z) : MI_ l yX11_told K_X11_told (some .int) G M [.ref (G.1 + x0), iv_i x1, iv_i x2] z.1 z.2 :=
  met_of (by decide +kernel) rfl (Nat.le_of_ble_eq_true rfl) (fun X hl C hR => by subst hl; exact t_X11_told C hR x0 x1 x2 o_x1 o_x2 h)
theorem d_X11_cut_0 : decode cX11_cut 0 = .ok (.iload_n 1, 1) := by decide +kernel
theorem d_X11_cut_1 : decode cX11_cut 1 = .ok (.aload_n 0, 1) := by decide +kernel
theorem d_X11_cut_2 : decode cX11_cut 2 = .ok (.getfield 10, 3) := by decide +kernel
theorem d_X11_cut_5 : decode cX11_cut 5 = .ok (.getfield 69, 3) := by decide +kernel
theorem d_X11_cut_8 : decode cX11_cut 8 = .ok (.invokestatic 61, 3) := by decide +kernel
theorem d_X11_cut_11 : decode cX11_cut 11 = .ok (.ifCond .eq 8, 3) := by decide +kernel
theorem d_X11_cut_14 : decode cX11_cut 14 = .ok (.iload_n 2, 1) := by decide +kernel
theorem d_X11_cut_15 : decode cX11_cut 15 = .ok (.iconst (-1), 1) := by decide +kernel
theorem d_X11_cut_16 : decode cX11_cut 16 = .ok (.if_icmp .ge 5, 3) := by decide +kernel
theorem d_X11_cut_19 : decode cX11_cut 19 = .ok (.iconst (-1), 1) := by decide +kernel
theorem d_X11_cut_20 : decode cX11_cut 20 = .ok (.ireturn, 1) := by decide +kernel
theorem d_X11_cut_21 : decode cX11_cut 21 = .ok (.aload_n 0, 1) := by decide +kernel
theorem d_X11_cut_22 : decode cX11_cut 22 = .ok (.getfield 28, 3) := by decide +kernel
theorem d_X11_cut_25 : decode cX11_cut 25 = .ok (.aload_n 0, 1) := by decide +kernel
theorem d_X11_cut_26 : decode cX11_cut 26 = .ok (.getfield 10, 3) := by decide +kernel
theorem d_X11_cut_29 : decode cX11_cut 29 = .ok (.aload_n 0, 1) := by decide +kernel
theorem d_X11_cut_30 : decode cX11_cut 30 = .ok (.getfield 10, 3) := by decide +kernel
theorem d_X11_cut_33 : decode cX11_cut 33 = .ok (.getfield 77, 3) := by decide +kernel
theorem d_X11_cut_36 : decode cX11_cut 36 = .ok (.iload_n 1, 1) := by decide +kernel
theorem d_X11_cut_37 : decode cX11_cut 37 = .ok (.aaload, 1) := by decide +kernel
theorem d_X11_cut_38 : decode cX11_cut 38 = .ok (.invokevirtual 158, 3) := by decide +kernel
theorem d_X11_cut_41 : decode cX11_cut 41 = .ok (.iload_n 2, 1) := by decide +kernel
theorem d_X11_cut_42 : decode cX11_cut 42 = .ok (.iconst (-1), 1) := by decide +kernel
theorem d_X11_cut_43 : decode cX11_cut 43 = .ok (.if_icmp .ne 13, 3) := by decide +kernel
theorem d_X11_cut_46 : decode cX11_cut 46 = .ok (.aload_n 0, 1) := by decide +kernel
theorem d_X11_cut_47 : decode cX11_cut 47 = .ok (.getfield 28, 3) := by decide +kernel
theorem d_X11_cut_50 : decode cX11_cut 50 = .ok (.getfield 162, 3) := by decide +kernel
theorem d_X11_cut_53 : decode cX11_cut 53 = .ok (.iconst 0, 1) := by decide +kernel
theorem d_X11_cut_54 : decode cX11_cut 54 = .ok (.iaload, 1) := by decide +kernel
theorem d_X11_cut_55 : decode cX11_cut 55 = .ok (.ireturn, 1) := by decide +kernel
theorem d_X11_cut_56 : decode cX11_cut 56 = .ok (.iload_n 2, 1) := by decide +kernel
theorem d_X11_cut_57 : decode cX11_cut 57 = .ok (.aload_n 0, 1) := by decide +kernel
theorem d_X11_cut_58 : decode cX11_cut 58 = .ok (.getfield 28, 3) := by decide +kernel
theorem d_X11_cut_61 : decode cX11_cut 61 = .ok (.getfield 165, 3) := by decide +kernel
theorem d_X11_cut_64 : decode cX11_cut 64 = .ok (.if_icmp .ge 15, 3) := by decide +kernel
theorem d_X11_cut_67 : decode cX11_cut 67 = .ok (.aload_n 0, 1) := by decide +kernel
theorem d_X11_cut_68 : decode cX11_cut 68 = .ok (.getfield 28, 3) := by decide +kernel
theorem d_X11_cut_71 : decode cX11_cut 71 = .ok (.getfield 168, 3) := by decide +kernel
theorem d_X11_cut_74 : decode cX11_cut 74 = .ok (.iload_n 2, 1) := by decide +kernel
theorem d_X11_cut_75 : decode cX11_cut 75 = .ok (.iaload, 1) := by decide +kernel
theorem d_X11_cut_76 : decode cX11_cut 76 = .ok (.goto 5, 3) := by decide +kernel
theorem d_X11_cut_79 : decode cX11_cut 79 = .ok (.bipush (-4), 2) := by decide +kernel
theorem d_X11_cut_81 : decode cX11_cut 81 = .ok (.ireturn, 1) := by decide +kernel
set_option maxHeartbeats 4000000 in
set_option maxRecDepth 100000 in
theorem t_X11_cut {X : XT_x} {G : GT_g} {M : Mem_m} {z : (Mem_m × Int)} (C : Cx_ (K_X11_cut) X G) (hR : Rx_ X G (some .int)) (x0 : Nat) (x1 : Int) (x2 : Int) (o_x1 : ok_i x1) (o_x2 : ok_i x2) (h : f_X11_cut G.2.2.2 M x0 x1 x2 = some z) : V_ (K_X11_cut) X G (Fq_ X G (Qi_ G z.1 z.2)) M 0 [(0, .ref (G.1 + x0)), (1, iv_i x1), (2, iv_i x2)] [] := by
  unfold f_X11_cut at h
  refine V_iload_n (j := 1) C d_X11_cut_0 rfl rfl ?_
  refine V_aload_n (j := 0) C d_X11_cut_1 rfl rfl ?_
  refine V_getR C ck_11 fw_X11_10 d_X11_cut_2 h (fun v1 h => ?_)
  refine V_getI C ck_0 fw_X11_69 d_X11_cut_5 h (fun v2 o2 h => ?_)
  refine V_callSri (K' := K_X11_isIn) (av := [iv_i x1, iv_i v2]) (rest := []) ys_X11_isIn C (yk_X11_isIn) l1_X11_61 (by decide) d_X11_cut_8 (fun v hv => ct_X11_isIn x1 v2 o_x1 o2 hv) rfl rfl (Nat.le_of_ble_eq_true rfl) h (fun v3 o3 h => ?_)
  refine V_if_eq (tgt := 19) C d_X11_cut_11 (by decide) o3 h (fun h => ?_) (fun h => ?_)
  · skip
    refine V_iconst C d_X11_cut_19 ?_
    exact V_iret_w C hR d_X11_cut_20 (okc rfl) h
  · skip
    refine V_iload_n (j := 2) C d_X11_cut_14 rfl rfl ?_
    refine V_iconst C d_X11_cut_15 ?_
    refine V_icmp_ge (tgt := 21) C d_X11_cut_16 (by decide) o_x2 (okc rfl) h (fun h => ?_) (fun h => ?_)
    · skip
      refine V_iconst C d_X11_cut_19 ?_
      exact V_iret_w C hR d_X11_cut_20 (okc rfl) h
    · skip
      refine V_aload_n (j := 0) C d_X11_cut_21 rfl rfl ?_
      refine V_getR C ck_11 fw_X11_28 d_X11_cut_22 h (fun v4 h => ?_)
      refine V_aload_n (j := 0) C d_X11_cut_25 rfl rfl ?_
      refine V_getR C ck_11 fw_X11_10 d_X11_cut_26 h (fun v5 h => ?_)
      refine V_aload_n (j := 0) C d_X11_cut_29 rfl rfl ?_
      refine V_getR C ck_11 fw_X11_10 d_X11_cut_30 h (fun v6 h => ?_)
      refine V_getR C ck_0 fw_X11_77 d_X11_cut_33 h (fun v7 h => ?_)
      refine V_iload_n (j := 1) C d_X11_cut_36 rfl rfl ?_
      refine V_aald (t := 0) C tc_0 d_X11_cut_37 o_x1 h (fun v8 h => ?_)
      refine V_callVwv (K' := K_X2_cutUp) (a := v4) (ci := 2) (av := [.ref (G.1 + v5), .ref (G.1 + v8)]) (rest := []) yi_X2_cutUp (by decide) rfl C (yk_X2_cutUp) l1_X11_158 (by decide) d_X11_cut_38 (fun v hv => ct_X2_cutUp v4 v5 v8 hv) rfl rfl (Nat.le_of_ble_eq_true rfl) h (fun M9 h => ?_)
      refine V_iload_n (j := 2) C d_X11_cut_41 rfl rfl ?_
      refine V_iconst C d_X11_cut_42 ?_
      refine V_icmp_ne (tgt := 56) C d_X11_cut_43 (by decide) o_x2 (okc rfl) h (fun h => ?_) (fun h => ?_)
      · skip
        refine V_aload_n (j := 0) C d_X11_cut_46 rfl rfl ?_
        refine V_getR C ck_11 fw_X11_28 d_X11_cut_47 h (fun v10 h => ?_)
        refine V_getR C ck_2 fw_X11_162 d_X11_cut_50 h (fun v11 h => ?_)
        refine V_iconst C d_X11_cut_53 ?_
        refine V_iald C d_X11_cut_54 (okc rfl) h (fun v12 o12 h => ?_)
        exact V_iret_w C hR d_X11_cut_55 o12 h
      · skip
        refine V_iload_n (j := 2) C d_X11_cut_56 rfl rfl ?_
        refine V_aload_n (j := 0) C d_X11_cut_57 rfl rfl ?_
        refine V_getR C ck_11 fw_X11_28 d_X11_cut_58 h (fun v13 h => ?_)
        refine V_getI C ck_2 fw_X11_165 d_X11_cut_61 h (fun v14 o14 h => ?_)
        refine V_icmp_ge (tgt := 79) C d_X11_cut_64 (by decide) o_x2 o14 h (fun h => ?_) (fun h => ?_)
        · skip
          refine V_aload_n (j := 0) C d_X11_cut_67 rfl rfl ?_
          refine V_getR C ck_11 fw_X11_28 d_X11_cut_68 h (fun v15 h => ?_)
          refine V_getR C ck_2 fw_X11_168 d_X11_cut_71 h (fun v16 h => ?_)
          refine V_iload_n (j := 2) C d_X11_cut_74 rfl rfl ?_
          refine V_iald C d_X11_cut_75 o_x2 h (fun v17 o17 h => ?_)
          refine V_goto (tgt := 81) C d_X11_cut_76 (by decide) ?_
          exact V_iret_w C hR d_X11_cut_81 o17 h
        · skip
          refine V_bipush (v := (-4)) C d_X11_cut_79 rfl ?_
          exact V_iret_w C hR d_X11_cut_81 (okc rfl) h
set_option maxHeartbeats 4000000 in
set_option maxRecDepth 100000 in
theorem ct_X11_cut {l : Launch} {G : GT_g} {M : Mem_m} (x0 : Nat) (x1 : Int) (x2 : Int) (o_x1 : ok_i x1) (o_x2 : ok_i x2) {z : (Mem_m × Int)} (h : f_X11_cut G.2.2.2 M x0 x1 x2 = some z) : MI_ l yX11_cut K_X11_cut (some .int) G M [.ref (G.1 + x0), iv_i x1, iv_i x2] z.1 z.2 :=
  met_of (by decide +kernel) rfl (Nat.le_of_ble_eq_true rfl) (fun X hl C hR => by subst hl; exact t_X11_cut C hR x0 x1 x2 o_x1 o_x2 h)
theorem d_X11_leastList_0 : decode cX11_leastList 0 = .ok (.iload_n 1, 1) := by decide +kernel
theorem d_X11_leastList_1 : decode cX11_leastList 1 = .ok (.iconst 2, 1) := by decide +kernel
theorem d_X11_leastList_2 : decode cX11_leastList 2 = .ok (.invokestatic 61, 3) := by decide +kernel
theorem d_X11_leastList_5 : decode cX11_leastList 5 = .ok (.ifCond .ne 5, 3) := by decide +kernel
theorem d_X11_leastList_8 : decode cX11_leastList 8 = .ok (.iconst (-1), 1) := by decide +kernel
theorem d_X11_leastList_9 : decode cX11_leastList 9 = .ok (.ireturn, 1) := by decide +kernel
theorem d_X11_leastList_10 : decode cX11_leastList 10 = .ok (.aload_n 0, 1) := by decide +kernel
theorem d_X11_leastList_11 : decode cX11_leastList 11 = .ok (.getfield 28, 3) := by decide +kernel
theorem d_X11_leastList_14 : decode cX11_leastList 14 = .ok (.aload_n 0, 1) := by decide +kernel
theorem d_X11_leastList_15 : decode cX11_leastList 15 = .ok (.getfield 10, 3) := by decide +kernel
theorem d_X11_leastList_18 : decode cX11_leastList 18 = .ok (.invokevirtual 171, 3) := by decide +kernel
theorem d_X11_leastList_21 : decode cX11_leastList 21 = .ok (.iload_n 1, 1) := by decide +kernel
theorem d_X11_leastList_22 : decode cX11_leastList 22 = .ok (.ifCond .ne 13, 3) := by decide +kernel
theorem d_X11_leastList_25 : decode cX11_leastList 25 = .ok (.aload_n 0, 1) := by decide +kernel
theorem d_X11_leastList_26 : decode cX11_leastList 26 = .ok (.getfield 28, 3) := by decide +kernel
theorem d_X11_leastList_29 : decode cX11_leastList 29 = .ok (.getfield 175, 3) := by decide +kernel
theorem d_X11_leastList_32 : decode cX11_leastList 32 = .ok (.goto 10, 3) := by decide +kernel
theorem d_X11_leastList_35 : decode cX11_leastList 35 = .ok (.aload_n 0, 1) := by decide +kernel
theorem d_X11_leastList_36 : decode cX11_leastList 36 = .ok (.getfield 28, 3) := by decide +kernel
theorem d_X11_leastList_39 : decode cX11_leastList 39 = .ok (.getfield 178, 3) := by decide +kernel
theorem d_X11_leastList_42 : decode cX11_leastList 42 = .ok (.ireturn, 1) := by decide +kernel
set_option maxHeartbeats 4000000 in
set_option maxRecDepth 100000 in
theorem t_X11_leastList {X : XT_x} {G : GT_g} {M : Mem_m} {z : (Mem_m × Int)} (C : Cx_ (K_X11_leastList) X G) (hR : Rx_ X G (some .int)) (x0 : Nat) (x1 : Int) (o_x1 : ok_i x1) (h : f_X11_leastList G.2.2.2 M x0 x1 = some z) : V_ (K_X11_leastList) X G (Fq_ X G (Qi_ G z.1 z.2)) M 0 [(0, .ref (G.1 + x0)), (1, iv_i x1)] [] := by
  unfold f_X11_leastList at h
  refine V_iload_n (j := 1) C d_X11_leastList_0 rfl rfl ?_
  refine V_iconst C d_X11_leastList_1 ?_
  refine V_callSri (K' := K_X11_isIn) (av := [iv_i x1, iv_i 2]) (rest := []) ys_X11_isIn C (yk_X11_isIn) l1_X11_61 (by decide) d_X11_leastList_2 (fun v hv => ct_X11_isIn x1 2 o_x1 (okc rfl) hv) rfl rfl (Nat.le_of_ble_eq_true rfl) h (fun v1 o1 h => ?_)
  refine V_if_ne (tgt := 10) C d_X11_leastList_5 (by decide) o1 h (fun h => ?_) (fun h => ?_)
  · skip
    refine V_iconst C d_X11_leastList_8 ?_
    exact V_iret_w C hR d_X11_leastList_9 (okc rfl) h
  · skip
    refine V_aload_n (j := 0) C d_X11_leastList_10 rfl rfl ?_
    refine V_getR C ck_11 fw_X11_28 d_X11_leastList_11 h (fun v2 h => ?_)
    refine V_aload_n (j := 0) C d_X11_leastList_14 rfl rfl ?_
    refine V_getR C ck_11 fw_X11_10 d_X11_leastList_15 h (fun v3 h => ?_)
    refine V_callVwv (K' := K_X2_findLeastList) (a := v2) (ci := 2) (av := [.ref (G.1 + v3)]) (rest := []) yi_X2_findLeastList (by decide) rfl C (yk_X2_findLeastList) l1_X11_171 (by decide) d_X11_leastList_18 (fun v hv => ct_X2_findLeastList v2 v3 hv) rfl rfl (Nat.le_of_ble_eq_true rfl) h (fun M4 h => ?_)
    refine V_iload_n (j := 1) C d_X11_leastList_21 rfl rfl ?_
    refine V_if_ne (tgt := 35) C d_X11_leastList_22 (by decide) o_x1 h (fun h => ?_) (fun h => ?_)
    · skip
      refine V_aload_n (j := 0) C d_X11_leastList_25 rfl rfl ?_
      refine V_getR C ck_11 fw_X11_28 d_X11_leastList_26 h (fun v5 h => ?_)
      refine V_getI C ck_2 fw_X11_175 d_X11_leastList_29 h (fun v6 o6 h => ?_)
      refine V_goto (tgt := 42) C d_X11_leastList_32 (by decide) ?_
      exact V_iret_w C hR d_X11_leastList_42 o6 h
    · skip
      refine V_aload_n (j := 0) C d_X11_leastList_35 rfl rfl ?_
      refine V_getR C ck_11 fw_X11_28 d_X11_leastList_36 h (fun v7 h => ?_)
      refine V_getI C ck_2 fw_X11_178 d_X11_leastList_39 h (fun v8 o8 h => ?_)
      exact V_iret_w C hR d_X11_leastList_42 o8 h
set_option maxHeartbeats 4000000 in
set_option maxRecDepth 100000 in
theorem ct_X11_leastList {l : Launch} {G : GT_g} {M : Mem_m} (x0 : Nat) (x1 : Int) (o_x1 : ok_i x1) {z : (Mem_m × Int)} (h : f_X11_leastList G.2.2.2 M x0 x1 = some z) : MI_ l yX11_leastList K_X11_leastList (some .int) G M [.ref (G.1 + x0), iv_i x1] z.1 z.2 :=
  met_of (by decide +kernel) rfl (Nat.le_of_ble_eq_true rfl) (fun X hl C hR => by subst hl; exact t_X11_leastList C hR x0 x1 o_x1 h)
theorem d_X11_fault_0 : decode cX11_fault 0 = .ok (.iload_n 1, 1) := by decide +kernel
theorem d_X11_fault_1 : decode cX11_fault 1 = .ok (.bipush 8, 2) := by decide +kernel
theorem d_X11_fault_3 : decode cX11_fault 3 = .ok (.invokestatic 61, 3) := by decide +kernel
theorem d_X11_fault_6 : decode cX11_fault 6 = .ok (.ifCond .ne 5, 3) := by decide +kernel
theorem d_X11_fault_9 : decode cX11_fault 9 = .ok (.iconst (-1), 1) := by decide +kernel
theorem d_X11_fault_10 : decode cX11_fault 10 = .ok (.ireturn, 1) := by decide +kernel
theorem d_X11_fault_11 : decode cX11_fault 11 = .ok (.aload_n 0, 1) := by decide +kernel
theorem d_X11_fault_12 : decode cX11_fault 12 = .ok (.getfield 21, 3) := by decide +kernel
theorem d_X11_fault_15 : decode cX11_fault 15 = .ok (.iload_n 1, 1) := by decide +kernel
theorem d_X11_fault_16 : decode cX11_fault 16 = .ok (.aaload, 1) := by decide +kernel
theorem d_X11_fault_17 : decode cX11_fault 17 = .ok (.invokevirtual 181, 3) := by decide +kernel
theorem d_X11_fault_20 : decode cX11_fault 20 = .ok (.istore_n 2, 1) := by decide +kernel
theorem d_X11_fault_21 : decode cX11_fault 21 = .ok (.iload_n 2, 1) := by decide +kernel
theorem d_X11_fault_22 : decode cX11_fault 22 = .ok (.ifCond .eq 5, 3) := by decide +kernel
theorem d_X11_fault_25 : decode cX11_fault 25 = .ok (.iload_n 2, 1) := by decide +kernel
theorem d_X11_fault_26 : decode cX11_fault 26 = .ok (.ireturn, 1) := by decide +kernel
theorem d_X11_fault_27 : decode cX11_fault 27 = .ok (.aload_n 0, 1) := by decide +kernel
theorem d_X11_fault_28 : decode cX11_fault 28 = .ok (.getfield 56, 3) := by decide +kernel
theorem d_X11_fault_31 : decode cX11_fault 31 = .ok (.aload_n 0, 1) := by decide +kernel
theorem d_X11_fault_32 : decode cX11_fault 32 = .ok (.getfield 21, 3) := by decide +kernel
theorem d_X11_fault_35 : decode cX11_fault 35 = .ok (.iload_n 1, 1) := by decide +kernel
theorem d_X11_fault_36 : decode cX11_fault 36 = .ok (.aaload, 1) := by decide +kernel
theorem d_X11_fault_37 : decode cX11_fault 37 = .ok (.invokevirtual 184, 3) := by decide +kernel
theorem d_X11_fault_40 : decode cX11_fault 40 = .ok (.ifCond .eq 8, 3) := by decide +kernel
theorem d_X11_fault_43 : decode cX11_fault 43 = .ok (.bipush (-4), 2) := by decide +kernel
theorem d_X11_fault_45 : decode cX11_fault 45 = .ok (.goto 10, 3) := by decide +kernel
theorem d_X11_fault_48 : decode cX11_fault 48 = .ok (.aload_n 0, 1) := by decide +kernel
theorem d_X11_fault_49 : decode cX11_fault 49 = .ok (.getfield 56, 3) := by decide +kernel
theorem d_X11_fault_52 : decode cX11_fault 52 = .ok (.getfield 188, 3) := by decide +kernel
theorem d_X11_fault_55 : decode cX11_fault 55 = .ok (.ireturn, 1) := by decide +kernel
set_option maxHeartbeats 4000000 in
set_option maxRecDepth 100000 in
theorem t_X11_fault {X : XT_x} {G : GT_g} {M : Mem_m} {z : (Mem_m × Int)} (C : Cx_ (K_X11_fault) X G) (hR : Rx_ X G (some .int)) (x0 : Nat) (x1 : Int) (o_x1 : ok_i x1) (h : f_X11_fault G.2.2.2 M x0 x1 = some z) : V_ (K_X11_fault) X G (Fq_ X G (Qi_ G z.1 z.2)) M 0 [(0, .ref (G.1 + x0)), (1, iv_i x1)] [] := by
  unfold f_X11_fault at h
  refine V_iload_n (j := 1) C d_X11_fault_0 rfl rfl ?_
  refine V_bipush (v := 8) C d_X11_fault_1 rfl ?_
  refine V_callSri (K' := K_X11_isIn) (av := [iv_i x1, iv_i 8]) (rest := []) ys_X11_isIn C (yk_X11_isIn) l1_X11_61 (by decide) d_X11_fault_3 (fun v hv => ct_X11_isIn x1 8 o_x1 (okc rfl) hv) rfl rfl (Nat.le_of_ble_eq_true rfl) h (fun v1 o1 h => ?_)
  refine V_if_ne (tgt := 11) C d_X11_fault_6 (by decide) o1 h (fun h => ?_) (fun h => ?_)
  · skip
    refine V_iconst C d_X11_fault_9 ?_
    exact V_iret_w C hR d_X11_fault_10 (okc rfl) h
  · skip
    refine V_aload_n (j := 0) C d_X11_fault_11 rfl rfl ?_
    refine V_getR C ck_11 fw_X11_21 d_X11_fault_12 h (fun v2 h => ?_)
    refine V_iload_n (j := 1) C d_X11_fault_15 rfl rfl ?_
    refine V_aald (t := 5) C tc_5 d_X11_fault_16 o_x1 h (fun v3 h => ?_)
    refine V_callVri (K' := K_X9_refusalOfBytes) (a := v3) (ci := 9) (av := []) (rest := []) yi_X9_refusalOfBytes (by decide) rfl C (yk_X9_refusalOfBytes) l1_X11_181 (by decide) d_X11_fault_17 (fun v hv => ct_X9_refusalOfBytes v3 hv) rfl rfl (Nat.le_of_ble_eq_true rfl) h (fun v4 o4 h => ?_)
    refine V_istore_n (lv' := [(2, iv_i v4), (0, .ref (G.1 + x0)), (1, iv_i x1)]) C d_X11_fault_20 rfl (by decide) rfl ?_
    refine V_iload_n (j := 0) C d_X11_fault_21 rfl rfl ?_
    refine V_if_eq (tgt := 27) C d_X11_fault_22 (by decide) o4 h (fun h => ?_) (fun h => ?_)
    · skip
      refine V_aload_n (j := 1) C d_X11_fault_27 rfl rfl ?_
      refine V_getR C ck_11 fw_X11_56 d_X11_fault_28 h (fun v5 h => ?_)
      refine V_aload_n (j := 1) C d_X11_fault_31 rfl rfl ?_
      refine V_getR C ck_11 fw_X11_21 d_X11_fault_32 h (fun v6 h => ?_)
      refine V_iload_n (j := 2) C d_X11_fault_35 rfl rfl ?_
      refine V_aald (t := 5) C tc_5 d_X11_fault_36 o_x1 h (fun v7 h => ?_)
      refine V_callVwi (K' := K_X7_isRead) (a := v5) (ci := 7) (av := [.ref (G.1 + v7)]) (rest := []) yi_X7_isRead (by decide) rfl C (yk_X7_isRead) l1_X11_184 (by decide) d_X11_fault_37 (fun v hv => ct_X7_isRead v5 v7 hv) rfl rfl (Nat.le_of_ble_eq_true rfl) h (fun z8 o8 h => ?_)
      refine V_if_eq (tgt := 48) C d_X11_fault_40 (by decide) o8 h (fun h => ?_) (fun h => ?_)
      · skip
        refine V_aload_n (j := 1) C d_X11_fault_48 rfl rfl ?_
        refine V_getR C ck_11 fw_X11_56 d_X11_fault_49 h (fun v9 h => ?_)
        refine V_getI C ck_7 fw_X11_188 d_X11_fault_52 h (fun v10 o10 h => ?_)
        exact V_iret_w C hR d_X11_fault_55 o10 h
      · skip
        refine V_bipush (v := (-4)) C d_X11_fault_43 rfl ?_
        refine V_goto (tgt := 55) C d_X11_fault_45 (by decide) ?_
        exact V_iret_w C hR d_X11_fault_55 (okc rfl) h
    · skip
      refine V_iload_n (j := 0) C d_X11_fault_25 rfl rfl ?_
      exact V_iret_w C hR d_X11_fault_26 o4 h
set_option maxHeartbeats 4000000 in
set_option maxRecDepth 100000 in
theorem ct_X11_fault {l : Launch} {G : GT_g} {M : Mem_m} (x0 : Nat) (x1 : Int) (o_x1 : ok_i x1) {z : (Mem_m × Int)} (h : f_X11_fault G.2.2.2 M x0 x1 = some z) : MI_ l yX11_fault K_X11_fault (some .int) G M [.ref (G.1 + x0), iv_i x1] z.1 z.2 :=
  met_of (by decide +kernel) rfl (Nat.le_of_ble_eq_true rfl) (fun X hl C hR => by subst hl; exact t_X11_fault C hR x0 x1 o_x1 h)
theorem d_X11_rule_0 : decode cX11_rule 0 = .ok (.iload_n 1, 1) := by decide +kernel
theorem d_X11_rule_1 : decode cX11_rule 1 = .ok (.bipush 8, 2) := by decide +kernel
theorem d_X11_rule_3 : decode cX11_rule 3 = .ok (.invokestatic 61, 3) := by decide +kernel
theorem d_X11_rule_6 : decode cX11_rule 6 = .ok (.ifCond .ne 5, 3) := by decide +kernel
theorem d_X11_rule_9 : decode cX11_rule 9 = .ok (.iconst (-1), 1) := by decide +kernel
theorem d_X11_rule_10 : decode cX11_rule 10 = .ok (.ireturn, 1) := by decide +kernel
theorem d_X11_rule_11 : decode cX11_rule 11 = .ok (.aload_n 0, 1) := by decide +kernel
theorem d_X11_rule_12 : decode cX11_rule 12 = .ok (.getfield 10, 3) := by decide +kernel
theorem d_X11_rule_15 : decode cX11_rule 15 = .ok (.getfield 191, 3) := by decide +kernel
theorem d_X11_rule_18 : decode cX11_rule 18 = .ok (.bipush 8, 2) := by decide +kernel
theorem d_X11_rule_20 : decode cX11_rule 20 = .ok (.if_icmp .lt 6, 3) := by decide +kernel
theorem d_X11_rule_23 : decode cX11_rule 23 = .ok (.bipush (-2), 2) := by decide +kernel
theorem d_X11_rule_25 : decode cX11_rule 25 = .ok (.ireturn, 1) := by decide +kernel
theorem d_X11_rule_26 : decode cX11_rule 26 = .ok (.aload_n 0, 1) := by decide +kernel
theorem d_X11_rule_27 : decode cX11_rule 27 = .ok (.getfield 21, 3) := by decide +kernel
theorem d_X11_rule_30 : decode cX11_rule 30 = .ok (.iload_n 1, 1) := by decide +kernel
theorem d_X11_rule_31 : decode cX11_rule 31 = .ok (.aaload, 1) := by decide +kernel
theorem d_X11_rule_32 : decode cX11_rule 32 = .ok (.invokevirtual 181, 3) := by decide +kernel
theorem d_X11_rule_35 : decode cX11_rule 35 = .ok (.istore_n 2, 1) := by decide +kernel
theorem d_X11_rule_36 : decode cX11_rule 36 = .ok (.iload_n 2, 1) := by decide +kernel
theorem d_X11_rule_37 : decode cX11_rule 37 = .ok (.ifCond .eq 5, 3) := by decide +kernel
theorem d_X11_rule_40 : decode cX11_rule 40 = .ok (.iload_n 2, 1) := by decide +kernel
theorem d_X11_rule_41 : decode cX11_rule 41 = .ok (.ireturn, 1) := by decide +kernel
theorem d_X11_rule_42 : decode cX11_rule 42 = .ok (.aload_n 0, 1) := by decide +kernel
theorem d_X11_rule_43 : decode cX11_rule 43 = .ok (.getfield 56, 3) := by decide +kernel
theorem d_X11_rule_46 : decode cX11_rule 46 = .ok (.aload_n 0, 1) := by decide +kernel
theorem d_X11_rule_47 : decode cX11_rule 47 = .ok (.getfield 21, 3) := by decide +kernel
theorem d_X11_rule_50 : decode cX11_rule 50 = .ok (.iload_n 1, 1) := by decide +kernel
theorem d_X11_rule_51 : decode cX11_rule 51 = .ok (.aaload, 1) := by decide +kernel
theorem d_X11_rule_52 : decode cX11_rule 52 = .ok (.invokevirtual 184, 3) := by decide +kernel
theorem d_X11_rule_55 : decode cX11_rule 55 = .ok (.ifCond .ne 14, 3) := by decide +kernel
theorem d_X11_rule_58 : decode cX11_rule 58 = .ok (.bipush (-100), 2) := by decide +kernel
theorem d_X11_rule_60 : decode cX11_rule 60 = .ok (.aload_n 0, 1) := by decide +kernel
theorem d_X11_rule_61 : decode cX11_rule 61 = .ok (.getfield 56, 3) := by decide +kernel
theorem d_X11_rule_64 : decode cX11_rule 64 = .ok (.getfield 188, 3) := by decide +kernel
theorem d_X11_rule_67 : decode cX11_rule 67 = .ok (.isub, 1) := by decide +kernel
theorem d_X11_rule_68 : decode cX11_rule 68 = .ok (.ireturn, 1) := by decide +kernel
theorem d_X11_rule_69 : decode cX11_rule 69 = .ok (.aload_n 0, 1) := by decide +kernel
theorem d_X11_rule_70 : decode cX11_rule 70 = .ok (.getfield 10, 3) := by decide +kernel
theorem d_X11_rule_73 : decode cX11_rule 73 = .ok (.getfield 194, 3) := by decide +kernel
theorem d_X11_rule_76 : decode cX11_rule 76 = .ok (.aload_n 0, 1) := by decide +kernel
theorem d_X11_rule_77 : decode cX11_rule 77 = .ok (.getfield 10, 3) := by decide +kernel
theorem d_X11_rule_80 : decode cX11_rule 80 = .ok (.getfield 191, 3) := by decide +kernel
theorem d_X11_rule_83 : decode cX11_rule 83 = .ok (.aaload, 1) := by decide +kernel
theorem d_X11_rule_84 : decode cX11_rule 84 = .ok (.aload_n 0, 1) := by decide +kernel
theorem d_X11_rule_85 : decode cX11_rule 85 = .ok (.getfield 56, 3) := by decide +kernel
theorem d_X11_rule_88 : decode cX11_rule 88 = .ok (.invokevirtual 198, 3) := by decide +kernel
theorem d_X11_rule_91 : decode cX11_rule 91 = .ok (.aload_n 0, 1) := by decide +kernel
theorem d_X11_rule_92 : decode cX11_rule 92 = .ok (.getfield 10, 3) := by decide +kernel
theorem d_X11_rule_95 : decode cX11_rule 95 = .ok (.dup, 1) := by decide +kernel
theorem d_X11_rule_96 : decode cX11_rule 96 = .ok (.getfield 191, 3) := by decide +kernel
theorem d_X11_rule_99 : decode cX11_rule 99 = .ok (.iconst 1, 1) := by decide +kernel
theorem d_X11_rule_100 : decode cX11_rule 100 = .ok (.iadd, 1) := by decide +kernel
theorem d_X11_rule_101 : decode cX11_rule 101 = .ok (.putfield 191, 3) := by decide +kernel
theorem d_X11_rule_104 : decode cX11_rule 104 = .ok (.aload_n 0, 1) := by decide +kernel
theorem d_X11_rule_105 : decode cX11_rule 105 = .ok (.getfield 10, 3) := by decide +kernel
theorem d_X11_rule_108 : decode cX11_rule 108 = .ok (.getfield 191, 3) := by decide +kernel
theorem d_X11_rule_111 : decode cX11_rule 111 = .ok (.iconst 1, 1) := by decide +kernel
theorem d_X11_rule_112 : decode cX11_rule 112 = .ok (.isub, 1) := by decide +kernel
theorem d_X11_rule_113 : decode cX11_rule 113 = .ok (.ireturn, 1) := by decide +kernel
set_option maxHeartbeats 4000000 in
set_option maxRecDepth 100000 in
theorem t_X11_rule {X : XT_x} {G : GT_g} {M : Mem_m} {z : (Mem_m × Int)} (C : Cx_ (K_X11_rule) X G) (hR : Rx_ X G (some .int)) (x0 : Nat) (x1 : Int) (o_x1 : ok_i x1) (h : f_X11_rule G.2.2.2 M x0 x1 = some z) : V_ (K_X11_rule) X G (Fq_ X G (Qi_ G z.1 z.2)) M 0 [(0, .ref (G.1 + x0)), (1, iv_i x1)] [] := by
  unfold f_X11_rule at h
  refine V_iload_n (j := 1) C d_X11_rule_0 rfl rfl ?_
  refine V_bipush (v := 8) C d_X11_rule_1 rfl ?_
  refine V_callSri (K' := K_X11_isIn) (av := [iv_i x1, iv_i 8]) (rest := []) ys_X11_isIn C (yk_X11_isIn) l1_X11_61 (by decide) d_X11_rule_3 (fun v hv => ct_X11_isIn x1 8 o_x1 (okc rfl) hv) rfl rfl (Nat.le_of_ble_eq_true rfl) h (fun v1 o1 h => ?_)
  refine V_if_ne (tgt := 11) C d_X11_rule_6 (by decide) o1 h (fun h => ?_) (fun h => ?_)
  · skip
    refine V_iconst C d_X11_rule_9 ?_
    exact V_iret_w C hR d_X11_rule_10 (okc rfl) h
  · skip
    refine V_aload_n (j := 0) C d_X11_rule_11 rfl rfl ?_
    refine V_getR C ck_11 fw_X11_10 d_X11_rule_12 h (fun v2 h => ?_)
    refine V_getI C ck_0 fw_X11_191 d_X11_rule_15 h (fun v3 o3 h => ?_)
    refine V_bipush (v := 8) C d_X11_rule_18 rfl ?_
    refine V_icmp_lt (tgt := 26) C d_X11_rule_20 (by decide) o3 (okc rfl) h (fun h => ?_) (fun h => ?_)
    · skip
      refine V_aload_n (j := 0) C d_X11_rule_26 rfl rfl ?_
      refine V_getR C ck_11 fw_X11_21 d_X11_rule_27 h (fun v4 h => ?_)
      refine V_iload_n (j := 1) C d_X11_rule_30 rfl rfl ?_
      refine V_aald (t := 5) C tc_5 d_X11_rule_31 o_x1 h (fun v5 h => ?_)
      refine V_callVri (K' := K_X9_refusalOfBytes) (a := v5) (ci := 9) (av := []) (rest := []) yi_X9_refusalOfBytes (by decide) rfl C (yk_X9_refusalOfBytes) l1_X11_181 (by decide) d_X11_rule_32 (fun v hv => ct_X9_refusalOfBytes v5 hv) rfl rfl (Nat.le_of_ble_eq_true rfl) h (fun v6 o6 h => ?_)
      refine V_istore_n (lv' := [(2, iv_i v6), (0, .ref (G.1 + x0)), (1, iv_i x1)]) C d_X11_rule_35 rfl (by decide) rfl ?_
      refine V_iload_n (j := 0) C d_X11_rule_36 rfl rfl ?_
      refine V_if_eq (tgt := 42) C d_X11_rule_37 (by decide) o6 h (fun h => ?_) (fun h => ?_)
      · skip
        refine V_aload_n (j := 1) C d_X11_rule_42 rfl rfl ?_
        refine V_getR C ck_11 fw_X11_56 d_X11_rule_43 h (fun v7 h => ?_)
        refine V_aload_n (j := 1) C d_X11_rule_46 rfl rfl ?_
        refine V_getR C ck_11 fw_X11_21 d_X11_rule_47 h (fun v8 h => ?_)
        refine V_iload_n (j := 2) C d_X11_rule_50 rfl rfl ?_
        refine V_aald (t := 5) C tc_5 d_X11_rule_51 o_x1 h (fun v9 h => ?_)
        refine V_callVwi (K' := K_X7_isRead) (a := v7) (ci := 7) (av := [.ref (G.1 + v9)]) (rest := []) yi_X7_isRead (by decide) rfl C (yk_X7_isRead) l1_X11_184 (by decide) d_X11_rule_52 (fun v hv => ct_X7_isRead v7 v9 hv) rfl rfl (Nat.le_of_ble_eq_true rfl) h (fun z10 o10 h => ?_)
        refine V_if_ne (tgt := 69) C d_X11_rule_55 (by decide) o10 h (fun h => ?_) (fun h => ?_)
        · skip
          refine V_bipush (v := (-100)) C d_X11_rule_58 rfl ?_
          refine V_aload_n (j := 1) C d_X11_rule_60 rfl rfl ?_
          refine V_getR C ck_11 fw_X11_56 d_X11_rule_61 h (fun v11 h => ?_)
          refine V_getI C ck_7 fw_X11_188 d_X11_rule_64 h (fun v12 o12 h => ?_)
          refine V_isub C d_X11_rule_67 ?_
          exact V_iret_w C hR d_X11_rule_68 (ok_wr _) h
        · skip
          refine V_aload_n (j := 1) C d_X11_rule_69 rfl rfl ?_
          refine V_getR C ck_11 fw_X11_10 d_X11_rule_70 h (fun v13 h => ?_)
          refine V_getR C ck_0 fw_X11_194 d_X11_rule_73 h (fun v14 h => ?_)
          refine V_aload_n (j := 1) C d_X11_rule_76 rfl rfl ?_
          refine V_getR C ck_11 fw_X11_10 d_X11_rule_77 h (fun v15 h => ?_)
          refine V_getI C ck_0 fw_X11_191 d_X11_rule_80 h (fun v16 o16 h => ?_)
          refine V_aald (t := 2) C tc_2 d_X11_rule_83 o16 h (fun v17 h => ?_)
          refine V_aload_n (j := 1) C d_X11_rule_84 rfl rfl ?_
          refine V_getR C ck_11 fw_X11_56 d_X11_rule_85 h (fun v18 h => ?_)
          refine V_callVwv (K' := K_X7_take) (a := v17) (ci := 7) (av := [.ref (G.1 + v18)]) (rest := []) yi_X7_take (by decide) rfl C (yk_X7_take) l1_X11_198 (by decide) d_X11_rule_88 (fun v hv => ct_X7_take v17 v18 hv) rfl rfl (Nat.le_of_ble_eq_true rfl) h (fun M19 h => ?_)
          refine V_aload_n (j := 1) C d_X11_rule_91 rfl rfl ?_
          refine V_getR C ck_11 fw_X11_10 d_X11_rule_92 h (fun v20 h => ?_)
          refine V_dup C d_X11_rule_95 rfl ?_
          refine V_getI C ck_0 fw_X11_191 d_X11_rule_96 h (fun v21 o21 h => ?_)
          refine V_iconst C d_X11_rule_99 ?_
          refine V_iadd C d_X11_rule_100 ?_
          refine V_putI C ck_0 fw_X11_191 fp_0_9 d_X11_rule_101 (ok_wr _) h (fun M22 h => ?_)
          refine V_aload_n (j := 1) C d_X11_rule_104 rfl rfl ?_
          refine V_getR C ck_11 fw_X11_10 d_X11_rule_105 h (fun v23 h => ?_)
          refine V_getI C ck_0 fw_X11_191 d_X11_rule_108 h (fun v24 o24 h => ?_)
          refine V_iconst C d_X11_rule_111 ?_
          refine V_isub C d_X11_rule_112 ?_
          exact V_iret_w C hR d_X11_rule_113 (ok_wr _) h
      · skip
        refine V_iload_n (j := 0) C d_X11_rule_40 rfl rfl ?_
        exact V_iret_w C hR d_X11_rule_41 o6 h
    · skip
      refine V_bipush (v := (-2)) C d_X11_rule_23 rfl ?_
      exact V_iret_w C hR d_X11_rule_25 (okc rfl) h
set_option maxHeartbeats 4000000 in
set_option maxRecDepth 100000 in
theorem ct_X11_rule {l : Launch} {G : GT_g} {M : Mem_m} (x0 : Nat) (x1 : Int) (o_x1 : ok_i x1) {z : (Mem_m × Int)} (h : f_X11_rule G.2.2.2 M x0 x1 = some z) : MI_ l yX11_rule K_X11_rule (some .int) G M [.ref (G.1 + x0), iv_i x1] z.1 z.2 :=
  met_of (by decide +kernel) rfl (Nat.le_of_ble_eq_true rfl) (fun X hl C hR => by subst hl; exact t_X11_rule C hR x0 x1 o_x1 h)
theorem d_X11_heard_0 : decode cX11_heard 0 = .ok (.iload_n 1, 1) := by decide +kernel
theorem d_X11_heard_1 : decode cX11_heard 1 = .ok (.bipush 8, 2) := by decide +kernel
theorem d_X11_heard_3 : decode cX11_heard 3 = .ok (.invokestatic 61, 3) := by decide +kernel
theorem d_X11_heard_6 : decode cX11_heard 6 = .ok (.ifCond .eq 12, 3) := by decide +kernel
theorem d_X11_heard_9 : decode cX11_heard 9 = .ok (.iload_n 2, 1) := by decide +kernel
theorem d_X11_heard_10 : decode cX11_heard 10 = .ok (.bipush 8, 2) := by decide +kernel
theorem d_X11_heard_12 : decode cX11_heard 12 = .ok (.invokestatic 61, 3) := by decide +kernel
theorem d_X11_heard_15 : decode cX11_heard 15 = .ok (.ifCond .ne 5, 3) := by decide +kernel
theorem d_X11_heard_18 : decode cX11_heard 18 = .ok (.iconst (-1), 1) := by decide +kernel
theorem d_X11_heard_19 : decode cX11_heard 19 = .ok (.ireturn, 1) := by decide +kernel
theorem d_X11_heard_20 : decode cX11_heard 20 = .ok (.aload_n 0, 1) := by decide +kernel
theorem d_X11_heard_21 : decode cX11_heard 21 = .ok (.getfield 21, 3) := by decide +kernel
theorem d_X11_heard_24 : decode cX11_heard 24 = .ok (.iload_n 1, 1) := by decide +kernel
theorem d_X11_heard_25 : decode cX11_heard 25 = .ok (.aaload, 1) := by decide +kernel
theorem d_X11_heard_26 : decode cX11_heard 26 = .ok (.iconst 0, 1) := by decide +kernel
theorem d_X11_heard_27 : decode cX11_heard 27 = .ok (.bipush 80, 2) := by decide +kernel
theorem d_X11_heard_29 : decode cX11_heard 29 = .ok (.invokevirtual 73, 3) := by decide +kernel
theorem d_X11_heard_32 : decode cX11_heard 32 = .ok (.istore_n 3, 1) := by decide +kernel
theorem d_X11_heard_33 : decode cX11_heard 33 = .ok (.iload_n 3, 1) := by decide +kernel
theorem d_X11_heard_34 : decode cX11_heard 34 = .ok (.ifCond .eq 5, 3) := by decide +kernel
theorem d_X11_heard_37 : decode cX11_heard 37 = .ok (.iload_n 3, 1) := by decide +kernel
theorem d_X11_heard_38 : decode cX11_heard 38 = .ok (.ireturn, 1) := by decide +kernel
theorem d_X11_heard_39 : decode cX11_heard 39 = .ok (.aload_n 0, 1) := by decide +kernel
theorem d_X11_heard_40 : decode cX11_heard 40 = .ok (.getfield 35, 3) := by decide +kernel
theorem d_X11_heard_43 : decode cX11_heard 43 = .ok (.aload_n 0, 1) := by decide +kernel
theorem d_X11_heard_44 : decode cX11_heard 44 = .ok (.getfield 21, 3) := by decide +kernel
theorem d_X11_heard_47 : decode cX11_heard 47 = .ok (.iload_n 1, 1) := by decide +kernel
theorem d_X11_heard_48 : decode cX11_heard 48 = .ok (.aaload, 1) := by decide +kernel
theorem d_X11_heard_49 : decode cX11_heard 49 = .ok (.invokevirtual 202, 3) := by decide +kernel
theorem d_X11_heard_52 : decode cX11_heard 52 = .ok (.aload_n 0, 1) := by decide +kernel
theorem d_X11_heard_53 : decode cX11_heard 53 = .ok (.getfield 35, 3) := by decide +kernel
theorem d_X11_heard_56 : decode cX11_heard 56 = .ok (.aload_n 0, 1) := by decide +kernel
theorem d_X11_heard_57 : decode cX11_heard 57 = .ok (.getfield 10, 3) := by decide +kernel
theorem d_X11_heard_60 : decode cX11_heard 60 = .ok (.invokevirtual 203, 3) := by decide +kernel
theorem d_X11_heard_63 : decode cX11_heard 63 = .ok (.aload_n 0, 1) := by decide +kernel
theorem d_X11_heard_64 : decode cX11_heard 64 = .ok (.getfield 35, 3) := by decide +kernel
theorem d_X11_heard_67 : decode cX11_heard 67 = .ok (.aload_n 0, 1) := by decide +kernel
theorem d_X11_heard_68 : decode cX11_heard 68 = .ok (.getfield 21, 3) := by decide +kernel
theorem d_X11_heard_71 : decode cX11_heard 71 = .ok (.iload_n 2, 1) := by decide +kernel
theorem d_X11_heard_72 : decode cX11_heard 72 = .ok (.aaload, 1) := by decide +kernel
theorem d_X11_heard_73 : decode cX11_heard 73 = .ok (.invokevirtual 206, 3) := by decide +kernel
theorem d_X11_heard_76 : decode cX11_heard 76 = .ok (.aload_n 0, 1) := by decide +kernel
theorem d_X11_heard_77 : decode cX11_heard 77 = .ok (.getfield 35, 3) := by decide +kernel
theorem d_X11_heard_80 : decode cX11_heard 80 = .ok (.getfield 209, 3) := by decide +kernel
theorem d_X11_heard_83 : decode cX11_heard 83 = .ok (.ireturn, 1) := by decide +kernel
set_option maxHeartbeats 4000000 in
set_option maxRecDepth 100000 in
theorem t_X11_heard {X : XT_x} {G : GT_g} {M : Mem_m} {z : (Mem_m × Int)} (C : Cx_ (K_X11_heard) X G) (hR : Rx_ X G (some .int)) (x0 : Nat) (x1 : Int) (x2 : Int) (o_x1 : ok_i x1) (o_x2 : ok_i x2) (h : f_X11_heard G.2.2.2 M x0 x1 x2 = some z) : V_ (K_X11_heard) X G (Fq_ X G (Qi_ G z.1 z.2)) M 0 [(0, .ref (G.1 + x0)), (1, iv_i x1), (2, iv_i x2)] [] := by
  unfold f_X11_heard at h
  refine V_iload_n (j := 1) C d_X11_heard_0 rfl rfl ?_
  refine V_bipush (v := 8) C d_X11_heard_1 rfl ?_
  refine V_callSri (K' := K_X11_isIn) (av := [iv_i x1, iv_i 8]) (rest := []) ys_X11_isIn C (yk_X11_isIn) l1_X11_61 (by decide) d_X11_heard_3 (fun v hv => ct_X11_isIn x1 8 o_x1 (okc rfl) hv) rfl rfl (Nat.le_of_ble_eq_true rfl) h (fun v1 o1 h => ?_)
  refine V_if_eq (tgt := 18) C d_X11_heard_6 (by decide) o1 h (fun h => ?_) (fun h => ?_)
  · skip
    refine V_iconst C d_X11_heard_18 ?_
    exact V_iret_w C hR d_X11_heard_19 (okc rfl) h
  · skip
    refine V_iload_n (j := 2) C d_X11_heard_9 rfl rfl ?_
    refine V_bipush (v := 8) C d_X11_heard_10 rfl ?_
    refine V_callSri (K' := K_X11_isIn) (av := [iv_i x2, iv_i 8]) (rest := []) ys_X11_isIn C (yk_X11_isIn) l1_X11_61 (by decide) d_X11_heard_12 (fun v hv => ct_X11_isIn x2 8 o_x2 (okc rfl) hv) rfl rfl (Nat.le_of_ble_eq_true rfl) h (fun v2 o2 h => ?_)
    refine V_if_ne (tgt := 20) C d_X11_heard_15 (by decide) o2 h (fun h => ?_) (fun h => ?_)
    · skip
      refine V_iconst C d_X11_heard_18 ?_
      exact V_iret_w C hR d_X11_heard_19 (okc rfl) h
    · skip
      refine V_aload_n (j := 0) C d_X11_heard_20 rfl rfl ?_
      refine V_getR C ck_11 fw_X11_21 d_X11_heard_21 h (fun v3 h => ?_)
      refine V_iload_n (j := 1) C d_X11_heard_24 rfl rfl ?_
      refine V_aald (t := 5) C tc_5 d_X11_heard_25 o_x1 h (fun v4 h => ?_)
      refine V_iconst C d_X11_heard_26 ?_
      refine V_bipush (v := 80) C d_X11_heard_27 rfl ?_
      refine V_callVri (K' := K_X9_refusalOfSounds) (a := v4) (ci := 9) (av := [iv_i 0, iv_i 80]) (rest := []) yi_X9_refusalOfSounds (by decide) rfl C (yk_X9_refusalOfSounds) l1_X11_73 (by decide) d_X11_heard_29 (fun v hv => ct_X9_refusalOfSounds v4 0 80 (okc rfl) (okc rfl) hv) rfl rfl (Nat.le_of_ble_eq_true rfl) h (fun v5 o5 h => ?_)
      refine V_istore_n (lv' := [(3, iv_i v5), (0, .ref (G.1 + x0)), (1, iv_i x1), (2, iv_i x2)]) C d_X11_heard_32 rfl (by decide) rfl ?_
      refine V_iload_n (j := 0) C d_X11_heard_33 rfl rfl ?_
      refine V_if_eq (tgt := 39) C d_X11_heard_34 (by decide) o5 h (fun h => ?_) (fun h => ?_)
      · skip
        refine V_aload_n (j := 1) C d_X11_heard_39 rfl rfl ?_
        refine V_getR C ck_11 fw_X11_35 d_X11_heard_40 h (fun v6 h => ?_)
        refine V_aload_n (j := 1) C d_X11_heard_43 rfl rfl ?_
        refine V_getR C ck_11 fw_X11_21 d_X11_heard_44 h (fun v7 h => ?_)
        refine V_iload_n (j := 2) C d_X11_heard_47 rfl rfl ?_
        refine V_aald (t := 5) C tc_5 d_X11_heard_48 o_x1 h (fun v8 h => ?_)
        refine V_callVwv (K' := K_X3_takeRow) (a := v6) (ci := 3) (av := [.ref (G.1 + v8)]) (rest := []) yi_X3_takeRow (by decide) rfl C (yk_X3_takeRow) l1_X11_202 (by decide) d_X11_heard_49 (fun v hv => ct_X3_takeRow v6 v8 hv) rfl rfl (Nat.le_of_ble_eq_true rfl) h (fun M9 h => ?_)
        refine V_aload_n (j := 1) C d_X11_heard_52 rfl rfl ?_
        refine V_getR C ck_11 fw_X11_35 d_X11_heard_53 h (fun v10 h => ?_)
        refine V_aload_n (j := 1) C d_X11_heard_56 rfl rfl ?_
        refine V_getR C ck_11 fw_X11_10 d_X11_heard_57 h (fun v11 h => ?_)
        refine V_callVwv (K' := K_X3_hear) (a := v10) (ci := 3) (av := [.ref (G.1 + v11)]) (rest := []) yi_X3_hear (by decide) rfl C (yk_X3_hear) l1_X11_203 (by decide) d_X11_heard_60 (fun v hv => ct_X3_hear v10 v11 hv) rfl rfl (Nat.le_of_ble_eq_true rfl) h (fun M12 h => ?_)
        refine V_aload_n (j := 1) C d_X11_heard_63 rfl rfl ?_
        refine V_getR C ck_11 fw_X11_35 d_X11_heard_64 h (fun v13 h => ?_)
        refine V_aload_n (j := 1) C d_X11_heard_67 rfl rfl ?_
        refine V_getR C ck_11 fw_X11_21 d_X11_heard_68 h (fun v14 h => ?_)
        refine V_iload_n (j := 3) C d_X11_heard_71 rfl rfl ?_
        refine V_aald (t := 5) C tc_5 d_X11_heard_72 o_x2 h (fun v15 h => ?_)
        refine V_callVwv (K' := K_X3_giveRow) (a := v13) (ci := 3) (av := [.ref (G.1 + v15)]) (rest := []) yi_X3_giveRow (by decide) rfl C (yk_X3_giveRow) l1_X11_206 (by decide) d_X11_heard_73 (fun v hv => ct_X3_giveRow v13 v15 hv) rfl rfl (Nat.le_of_ble_eq_true rfl) h (fun M16 h => ?_)
        refine V_aload_n (j := 1) C d_X11_heard_76 rfl rfl ?_
        refine V_getR C ck_11 fw_X11_35 d_X11_heard_77 h (fun v17 h => ?_)
        refine V_getI C ck_3 fw_X11_209 d_X11_heard_80 h (fun v18 o18 h => ?_)
        exact V_iret_w C hR d_X11_heard_83 o18 h
      · skip
        refine V_iload_n (j := 0) C d_X11_heard_37 rfl rfl ?_
        exact V_iret_w C hR d_X11_heard_38 o5 h
set_option maxHeartbeats 4000000 in
set_option maxRecDepth 100000 in
theorem ct_X11_heard {l : Launch} {G : GT_g} {M : Mem_m} (x0 : Nat) (x1 : Int) (x2 : Int) (o_x1 : ok_i x1) (o_x2 : ok_i x2) {z : (Mem_m × Int)} (h : f_X11_heard G.2.2.2 M x0 x1 x2 = some z) : MI_ l yX11_heard K_X11_heard (some .int) G M [.ref (G.1 + x0), iv_i x1, iv_i x2] z.1 z.2 :=
  met_of (by decide +kernel) rfl (Nat.le_of_ble_eq_true rfl) (fun X hl C hR => by subst hl; exact t_X11_heard C hR x0 x1 x2 o_x1 o_x2 h)
theorem d_X11_deep_0 : decode cX11_deep 0 = .ok (.iload_n 1, 1) := by decide +kernel
theorem d_X11_deep_1 : decode cX11_deep 1 = .ok (.aload_n 0, 1) := by decide +kernel
theorem d_X11_deep_2 : decode cX11_deep 2 = .ok (.getfield 10, 3) := by decide +kernel
theorem d_X11_deep_5 : decode cX11_deep 5 = .ok (.getfield 69, 3) := by decide +kernel
theorem d_X11_deep_8 : decode cX11_deep 8 = .ok (.invokestatic 61, 3) := by decide +kernel
theorem d_X11_deep_11 : decode cX11_deep 11 = .ok (.ifCond .eq 8, 3) := by decide +kernel
theorem d_X11_deep_14 : decode cX11_deep 14 = .ok (.iload_n 2, 1) := by decide +kernel
theorem d_X11_deep_15 : decode cX11_deep 15 = .ok (.iconst (-1), 1) := by decide +kernel
theorem d_X11_deep_16 : decode cX11_deep 16 = .ok (.if_icmp .ge 5, 3) := by decide +kernel
theorem d_X11_deep_19 : decode cX11_deep 19 = .ok (.iconst (-1), 1) := by decide +kernel
theorem d_X11_deep_20 : decode cX11_deep 20 = .ok (.ireturn, 1) := by decide +kernel
theorem d_X11_deep_21 : decode cX11_deep 21 = .ok (.aload_n 0, 1) := by decide +kernel
theorem d_X11_deep_22 : decode cX11_deep 22 = .ok (.getfield 35, 3) := by decide +kernel
theorem d_X11_deep_25 : decode cX11_deep 25 = .ok (.aload_n 0, 1) := by decide +kernel
theorem d_X11_deep_26 : decode cX11_deep 26 = .ok (.getfield 10, 3) := by decide +kernel
theorem d_X11_deep_29 : decode cX11_deep 29 = .ok (.aload_n 0, 1) := by decide +kernel
theorem d_X11_deep_30 : decode cX11_deep 30 = .ok (.getfield 10, 3) := by decide +kernel
theorem d_X11_deep_33 : decode cX11_deep 33 = .ok (.getfield 77, 3) := by decide +kernel
theorem d_X11_deep_36 : decode cX11_deep 36 = .ok (.iload_n 1, 1) := by decide +kernel
theorem d_X11_deep_37 : decode cX11_deep 37 = .ok (.aaload, 1) := by decide +kernel
theorem d_X11_deep_38 : decode cX11_deep 38 = .ok (.getfield 81, 3) := by decide +kernel
theorem d_X11_deep_41 : decode cX11_deep 41 = .ok (.invokevirtual 210, 3) := by decide +kernel
theorem d_X11_deep_44 : decode cX11_deep 44 = .ok (.iload_n 2, 1) := by decide +kernel
theorem d_X11_deep_45 : decode cX11_deep 45 = .ok (.iconst (-1), 1) := by decide +kernel
theorem d_X11_deep_46 : decode cX11_deep 46 = .ok (.if_icmp .ne 26, 3) := by decide +kernel
theorem d_X11_deep_49 : decode cX11_deep 49 = .ok (.aload_n 0, 1) := by decide +kernel
theorem d_X11_deep_50 : decode cX11_deep 50 = .ok (.getfield 35, 3) := by decide +kernel
theorem d_X11_deep_53 : decode cX11_deep 53 = .ok (.getfield 214, 3) := by decide +kernel
theorem d_X11_deep_56 : decode cX11_deep 56 = .ok (.ifCond .le 13, 3) := by decide +kernel
theorem d_X11_deep_59 : decode cX11_deep 59 = .ok (.aload_n 0, 1) := by decide +kernel
theorem d_X11_deep_60 : decode cX11_deep 60 = .ok (.getfield 35, 3) := by decide +kernel
theorem d_X11_deep_63 : decode cX11_deep 63 = .ok (.getfield 214, 3) := by decide +kernel
theorem d_X11_deep_66 : decode cX11_deep 66 = .ok (.goto 5, 3) := by decide +kernel
theorem d_X11_deep_69 : decode cX11_deep 69 = .ok (.bipush (-4), 2) := by decide +kernel
theorem d_X11_deep_71 : decode cX11_deep 71 = .ok (.ireturn, 1) := by decide +kernel
theorem d_X11_deep_72 : decode cX11_deep 72 = .ok (.iload_n 2, 1) := by decide +kernel
theorem d_X11_deep_73 : decode cX11_deep 73 = .ok (.aload_n 0, 1) := by decide +kernel
theorem d_X11_deep_74 : decode cX11_deep 74 = .ok (.getfield 35, 3) := by decide +kernel
theorem d_X11_deep_77 : decode cX11_deep 77 = .ok (.getfield 214, 3) := by decide +kernel
theorem d_X11_deep_80 : decode cX11_deep 80 = .ok (.if_icmp .ge 15, 3) := by decide +kernel
theorem d_X11_deep_83 : decode cX11_deep 83 = .ok (.aload_n 0, 1) := by decide +kernel
theorem d_X11_deep_84 : decode cX11_deep 84 = .ok (.getfield 35, 3) := by decide +kernel
theorem d_X11_deep_87 : decode cX11_deep 87 = .ok (.getfield 217, 3) := by decide +kernel
theorem d_X11_deep_90 : decode cX11_deep 90 = .ok (.iload_n 2, 1) := by decide +kernel
theorem d_X11_deep_91 : decode cX11_deep 91 = .ok (.iaload, 1) := by decide +kernel
theorem d_X11_deep_92 : decode cX11_deep 92 = .ok (.goto 5, 3) := by decide +kernel
theorem d_X11_deep_95 : decode cX11_deep 95 = .ok (.bipush (-4), 2) := by decide +kernel
theorem d_X11_deep_97 : decode cX11_deep 97 = .ok (.ireturn, 1) := by decide +kernel
set_option maxHeartbeats 4000000 in
set_option maxRecDepth 100000 in
theorem t_X11_deep {X : XT_x} {G : GT_g} {M : Mem_m} {z : (Mem_m × Int)} (C : Cx_ (K_X11_deep) X G) (hR : Rx_ X G (some .int)) (x0 : Nat) (x1 : Int) (x2 : Int) (o_x1 : ok_i x1) (o_x2 : ok_i x2) (h : f_X11_deep G.2.2.2 M x0 x1 x2 = some z) : V_ (K_X11_deep) X G (Fq_ X G (Qi_ G z.1 z.2)) M 0 [(0, .ref (G.1 + x0)), (1, iv_i x1), (2, iv_i x2)] [] := by
  unfold f_X11_deep at h
  refine V_iload_n (j := 1) C d_X11_deep_0 rfl rfl ?_
  refine V_aload_n (j := 0) C d_X11_deep_1 rfl rfl ?_
  refine V_getR C ck_11 fw_X11_10 d_X11_deep_2 h (fun v1 h => ?_)
  refine V_getI C ck_0 fw_X11_69 d_X11_deep_5 h (fun v2 o2 h => ?_)
  refine V_callSri (K' := K_X11_isIn) (av := [iv_i x1, iv_i v2]) (rest := []) ys_X11_isIn C (yk_X11_isIn) l1_X11_61 (by decide) d_X11_deep_8 (fun v hv => ct_X11_isIn x1 v2 o_x1 o2 hv) rfl rfl (Nat.le_of_ble_eq_true rfl) h (fun v3 o3 h => ?_)
  refine V_if_eq (tgt := 19) C d_X11_deep_11 (by decide) o3 h (fun h => ?_) (fun h => ?_)
  · skip
    refine V_iconst C d_X11_deep_19 ?_
    exact V_iret_w C hR d_X11_deep_20 (okc rfl) h
  · skip
    refine V_iload_n (j := 2) C d_X11_deep_14 rfl rfl ?_
    refine V_iconst C d_X11_deep_15 ?_
    refine V_icmp_ge (tgt := 21) C d_X11_deep_16 (by decide) o_x2 (okc rfl) h (fun h => ?_) (fun h => ?_)
    · skip
      refine V_iconst C d_X11_deep_19 ?_
      exact V_iret_w C hR d_X11_deep_20 (okc rfl) h
    · skip
      refine V_aload_n (j := 0) C d_X11_deep_21 rfl rfl ?_
      refine V_getR C ck_11 fw_X11_35 d_X11_deep_22 h (fun v4 h => ?_)
      refine V_aload_n (j := 0) C d_X11_deep_25 rfl rfl ?_
      refine V_getR C ck_11 fw_X11_10 d_X11_deep_26 h (fun v5 h => ?_)
      refine V_aload_n (j := 0) C d_X11_deep_29 rfl rfl ?_
      refine V_getR C ck_11 fw_X11_10 d_X11_deep_30 h (fun v6 h => ?_)
      refine V_getR C ck_0 fw_X11_77 d_X11_deep_33 h (fun v7 h => ?_)
      refine V_iload_n (j := 1) C d_X11_deep_36 rfl rfl ?_
      refine V_aald (t := 0) C tc_0 d_X11_deep_37 o_x1 h (fun v8 h => ?_)
      refine V_getR C ck_1 fw_X11_81 d_X11_deep_38 h (fun v9 h => ?_)
      refine V_callVwv (K' := K_X3_findDeep) (a := v4) (ci := 3) (av := [.ref (G.1 + v5), .ref (G.1 + v9)]) (rest := []) yi_X3_findDeep (by decide) rfl C (yk_X3_findDeep) l1_X11_210 (by decide) d_X11_deep_41 (fun v hv => ct_X3_findDeep v4 v5 v9 hv) rfl rfl (Nat.le_of_ble_eq_true rfl) h (fun M10 h => ?_)
      refine V_iload_n (j := 2) C d_X11_deep_44 rfl rfl ?_
      refine V_iconst C d_X11_deep_45 ?_
      refine V_icmp_ne (tgt := 72) C d_X11_deep_46 (by decide) o_x2 (okc rfl) h (fun h => ?_) (fun h => ?_)
      · skip
        refine V_aload_n (j := 0) C d_X11_deep_49 rfl rfl ?_
        refine V_getR C ck_11 fw_X11_35 d_X11_deep_50 h (fun v11 h => ?_)
        refine V_getI C ck_3 fw_X11_214 d_X11_deep_53 h (fun v12 o12 h => ?_)
        refine V_if_le (tgt := 69) C d_X11_deep_56 (by decide) o12 h (fun h => ?_) (fun h => ?_)
        · skip
          refine V_bipush (v := (-4)) C d_X11_deep_69 rfl ?_
          exact V_iret_w C hR d_X11_deep_71 (okc rfl) h
        · skip
          refine V_aload_n (j := 0) C d_X11_deep_59 rfl rfl ?_
          refine V_getR C ck_11 fw_X11_35 d_X11_deep_60 h (fun v13 h => ?_)
          refine V_getI C ck_3 fw_X11_214 d_X11_deep_63 h (fun v14 o14 h => ?_)
          refine V_goto (tgt := 71) C d_X11_deep_66 (by decide) ?_
          exact V_iret_w C hR d_X11_deep_71 o14 h
      · skip
        refine V_iload_n (j := 2) C d_X11_deep_72 rfl rfl ?_
        refine V_aload_n (j := 0) C d_X11_deep_73 rfl rfl ?_
        refine V_getR C ck_11 fw_X11_35 d_X11_deep_74 h (fun v15 h => ?_)
        refine V_getI C ck_3 fw_X11_214 d_X11_deep_77 h (fun v16 o16 h => ?_)
        refine V_icmp_ge (tgt := 95) C d_X11_deep_80 (by decide) o_x2 o16 h (fun h => ?_) (fun h => ?_)
        · skip
          refine V_aload_n (j := 0) C d_X11_deep_83 rfl rfl ?_
          refine V_getR C ck_11 fw_X11_35 d_X11_deep_84 h (fun v17 h => ?_)
          refine V_getR C ck_3 fw_X11_217 d_X11_deep_87 h (fun v18 h => ?_)
          refine V_iload_n (j := 2) C d_X11_deep_90 rfl rfl ?_
          refine V_iald C d_X11_deep_91 o_x2 h (fun v19 o19 h => ?_)
          refine V_goto (tgt := 97) C d_X11_deep_92 (by decide) ?_
          exact V_iret_w C hR d_X11_deep_97 o19 h
        · skip
          refine V_bipush (v := (-4)) C d_X11_deep_95 rfl ?_
          exact V_iret_w C hR d_X11_deep_97 (okc rfl) h
set_option maxHeartbeats 4000000 in
set_option maxRecDepth 100000 in
theorem ct_X11_deep {l : Launch} {G : GT_g} {M : Mem_m} (x0 : Nat) (x1 : Int) (x2 : Int) (o_x1 : ok_i x1) (o_x2 : ok_i x2) {z : (Mem_m × Int)} (h : f_X11_deep G.2.2.2 M x0 x1 x2 = some z) : MI_ l yX11_deep K_X11_deep (some .int) G M [.ref (G.1 + x0), iv_i x1, iv_i x2] z.1 z.2 :=
  met_of (by decide +kernel) rfl (Nat.le_of_ble_eq_true rfl) (fun X hl C hR => by subst hl; exact t_X11_deep C hR x0 x1 x2 o_x1 o_x2 h)
theorem d_X11_refusalOfSaying_0 : decode cX11_refusalOfSaying 0 = .ok (.aload_n 0, 1) := by decide +kernel
theorem d_X11_refusalOfSaying_1 : decode cX11_refusalOfSaying 1 = .ok (.invokevirtual 181, 3) := by decide +kernel
theorem d_X11_refusalOfSaying_4 : decode cX11_refusalOfSaying 4 = .ok (.istore_n 1, 1) := by decide +kernel
theorem d_X11_refusalOfSaying_5 : decode cX11_refusalOfSaying 5 = .ok (.iload_n 1, 1) := by decide +kernel
theorem d_X11_refusalOfSaying_6 : decode cX11_refusalOfSaying 6 = .ok (.ifCond .eq 5, 3) := by decide +kernel
theorem d_X11_refusalOfSaying_9 : decode cX11_refusalOfSaying 9 = .ok (.iload_n 1, 1) := by decide +kernel
theorem d_X11_refusalOfSaying_10 : decode cX11_refusalOfSaying 10 = .ok (.ireturn, 1) := by decide +kernel
theorem d_X11_refusalOfSaying_11 : decode cX11_refusalOfSaying 11 = .ok (.aload_n 0, 1) := by decide +kernel
theorem d_X11_refusalOfSaying_12 : decode cX11_refusalOfSaying 12 = .ok (.getfield 227, 3) := by decide +kernel
theorem d_X11_refusalOfSaying_15 : decode cX11_refusalOfSaying 15 = .ok (.aload_n 0, 1) := by decide +kernel
theorem d_X11_refusalOfSaying_16 : decode cX11_refusalOfSaying 16 = .ok (.getfield 230, 3) := by decide +kernel
theorem d_X11_refusalOfSaying_19 : decode cX11_refusalOfSaying 19 = .ok (.invokestatic 388, 3) := by decide +kernel
theorem d_X11_refusalOfSaying_22 : decode cX11_refusalOfSaying 22 = .ok (.ifCond .eq 7, 3) := by decide +kernel
theorem d_X11_refusalOfSaying_25 : decode cX11_refusalOfSaying 25 = .ok (.iconst 0, 1) := by decide +kernel
theorem d_X11_refusalOfSaying_26 : decode cX11_refusalOfSaying 26 = .ok (.goto 5, 3) := by decide +kernel
theorem d_X11_refusalOfSaying_29 : decode cX11_refusalOfSaying 29 = .ok (.bipush (-13), 2) := by decide +kernel
theorem d_X11_refusalOfSaying_31 : decode cX11_refusalOfSaying 31 = .ok (.ireturn, 1) := by decide +kernel
set_option maxHeartbeats 4000000 in
set_option maxRecDepth 100000 in
theorem t_X11_refusalOfSaying {X : XT_x} {G : GT_g} {M : Mem_m} {z : Int} (C : Cx_ (K_X11_refusalOfSaying) X G) (hR : Rx_ X G (some .int)) (x0 : Nat)  (h : f_X11_refusalOfSaying G.2.2.2 M x0 = some z) : V_ (K_X11_refusalOfSaying) X G (Fq_ X G (Qi_ G M z)) M 0 [(0, .ref (G.1 + x0))] [] := by
  unfold f_X11_refusalOfSaying at h
  refine V_aload_n (j := 0) C d_X11_refusalOfSaying_0 rfl rfl ?_
  refine V_callVri (K' := K_X9_refusalOfBytes) (a := x0) (ci := 9) (av := []) (rest := []) yi_X9_refusalOfBytes (by decide) rfl C (yk_X9_refusalOfBytes) l1_X11_181 (by decide) d_X11_refusalOfSaying_1 (fun v hv => ct_X9_refusalOfBytes x0 hv) rfl rfl (Nat.le_of_ble_eq_true rfl) h (fun v1 o1 h => ?_)
  refine V_istore_n (lv' := [(1, iv_i v1), (0, .ref (G.1 + x0))]) C d_X11_refusalOfSaying_4 rfl (by decide) rfl ?_
  refine V_iload_n (j := 0) C d_X11_refusalOfSaying_5 rfl rfl ?_
  refine V_if_eq (tgt := 11) C d_X11_refusalOfSaying_6 (by decide) o1 h (fun h => ?_) (fun h => ?_)
  · skip
    refine V_aload_n (j := 1) C d_X11_refusalOfSaying_11 rfl rfl ?_
    refine V_getR C ck_9 fw_X11_227 d_X11_refusalOfSaying_12 h (fun v2 h => ?_)
    refine V_aload_n (j := 1) C d_X11_refusalOfSaying_15 rfl rfl ?_
    refine V_getI C ck_9 fw_X11_230 d_X11_refusalOfSaying_16 h (fun v3 o3 h => ?_)
    refine V_callSri (K' := K_X6_isSaying) (av := [.ref (G.1 + v2), iv_i v3]) (rest := []) ys_X6_isSaying C (yk_X6_isSaying) l1_X11_388 (by decide) d_X11_refusalOfSaying_19 (fun v hv => ct_X6_isSaying v2 v3 o3 hv) rfl rfl (Nat.le_of_ble_eq_true rfl) h (fun v4 o4 h => ?_)
    refine V_if_eq (tgt := 29) C d_X11_refusalOfSaying_22 (by decide) o4 h (fun h => ?_) (fun h => ?_)
    · skip
      refine V_bipush (v := (-13)) C d_X11_refusalOfSaying_29 rfl ?_
      exact V_iret_r C hR d_X11_refusalOfSaying_31 (okc rfl) h
    · skip
      refine V_iconst C d_X11_refusalOfSaying_25 ?_
      refine V_goto (tgt := 31) C d_X11_refusalOfSaying_26 (by decide) ?_
      exact V_iret_r C hR d_X11_refusalOfSaying_31 (okc rfl) h
  · skip
    refine V_iload_n (j := 0) C d_X11_refusalOfSaying_9 rfl rfl ?_
    exact V_iret_r C hR d_X11_refusalOfSaying_10 o1 h
set_option maxHeartbeats 4000000 in
set_option maxRecDepth 100000 in
theorem ct_X11_refusalOfSaying {l : Launch} {G : GT_g} {M : Mem_m} (x0 : Nat)  {z : Int} (h : f_X11_refusalOfSaying G.2.2.2 M x0 = some z) : MI_ l yX11_refusalOfSaying K_X11_refusalOfSaying (some .int) G M [.ref (G.1 + x0)] M z :=
  met_of (by decide +kernel) rfl (Nat.le_of_ble_eq_true rfl) (fun X hl C hR => by subst hl; exact t_X11_refusalOfSaying C hR x0  h)
theorem d_X11_said_0 : decode cX11_said 0 = .ok (.iload_n 1, 1) := by decide +kernel
theorem d_X11_said_1 : decode cX11_said 1 = .ok (.bipush 8, 2) := by decide +kernel
theorem d_X11_said_3 : decode cX11_said 3 = .ok (.invokestatic 61, 3) := by decide +kernel
theorem d_X11_said_6 : decode cX11_said 6 = .ok (.ifCond .eq 22, 3) := by decide +kernel
theorem d_X11_said_9 : decode cX11_said 9 = .ok (.iload_n 2, 1) := by decide +kernel
theorem d_X11_said_10 : decode cX11_said 10 = .ok (.bipush 8, 2) := by decide +kernel
theorem d_X11_said_12 : decode cX11_said 12 = .ok (.invokestatic 61, 3) := by decide +kernel
theorem d_X11_said_15 : decode cX11_said 15 = .ok (.ifCond .eq 13, 3) := by decide +kernel
theorem d_X11_said_18 : decode cX11_said 18 = .ok (.iload_n 3, 1) := by decide +kernel
theorem d_X11_said_19 : decode cX11_said 19 = .ok (.sipush 1000, 3) := by decide +kernel
theorem d_X11_said_22 : decode cX11_said 22 = .ok (.invokestatic 61, 3) := by decide +kernel
theorem d_X11_said_25 : decode cX11_said 25 = .ok (.ifCond .ne 5, 3) := by decide +kernel
theorem d_X11_said_28 : decode cX11_said 28 = .ok (.iconst (-1), 1) := by decide +kernel
theorem d_X11_said_29 : decode cX11_said 29 = .ok (.ireturn, 1) := by decide +kernel
theorem d_X11_said_30 : decode cX11_said 30 = .ok (.aload_n 0, 1) := by decide +kernel
theorem d_X11_said_31 : decode cX11_said 31 = .ok (.getfield 10, 3) := by decide +kernel
theorem d_X11_said_34 : decode cX11_said 34 = .ok (.getfield 220, 3) := by decide +kernel
theorem d_X11_said_37 : decode cX11_said 37 = .ok (.bipush 20, 2) := by decide +kernel
theorem d_X11_said_39 : decode cX11_said 39 = .ok (.if_icmp .lt 6, 3) := by decide +kernel
theorem d_X11_said_42 : decode cX11_said 42 = .ok (.bipush (-2), 2) := by decide +kernel
theorem d_X11_said_44 : decode cX11_said 44 = .ok (.ireturn, 1) := by decide +kernel
theorem d_X11_said_45 : decode cX11_said 45 = .ok (.aload_n 0, 1) := by decide +kernel
theorem d_X11_said_46 : decode cX11_said 46 = .ok (.getfield 21, 3) := by decide +kernel
theorem d_X11_said_49 : decode cX11_said 49 = .ok (.iload_n 1, 1) := by decide +kernel
theorem d_X11_said_50 : decode cX11_said 50 = .ok (.aaload, 1) := by decide +kernel
theorem d_X11_said_51 : decode cX11_said 51 = .ok (.invokestatic 223, 3) := by decide +kernel
theorem d_X11_said_54 : decode cX11_said 54 = .ok (.istore 5, 2) := by decide +kernel
theorem d_X11_said_56 : decode cX11_said 56 = .ok (.iload 5, 2) := by decide +kernel
theorem d_X11_said_58 : decode cX11_said 58 = .ok (.ifCond .eq 6, 3) := by decide +kernel
theorem d_X11_said_61 : decode cX11_said 61 = .ok (.iload 5, 2) := by decide +kernel
theorem d_X11_said_63 : decode cX11_said 63 = .ok (.ireturn, 1) := by decide +kernel
theorem d_X11_said_64 : decode cX11_said 64 = .ok (.aload_n 0, 1) := by decide +kernel
theorem d_X11_said_65 : decode cX11_said 65 = .ok (.getfield 42, 3) := by decide +kernel
theorem d_X11_said_68 : decode cX11_said 68 = .ok (.aload_n 0, 1) := by decide +kernel
theorem d_X11_said_69 : decode cX11_said 69 = .ok (.getfield 21, 3) := by decide +kernel
theorem d_X11_said_72 : decode cX11_said 72 = .ok (.iload_n 1, 1) := by decide +kernel
theorem d_X11_said_73 : decode cX11_said 73 = .ok (.aaload, 1) := by decide +kernel
theorem d_X11_said_74 : decode cX11_said 74 = .ok (.getfield 227, 3) := by decide +kernel
theorem d_X11_said_77 : decode cX11_said 77 = .ok (.aload_n 0, 1) := by decide +kernel
theorem d_X11_said_78 : decode cX11_said 78 = .ok (.getfield 21, 3) := by decide +kernel
theorem d_X11_said_81 : decode cX11_said 81 = .ok (.iload_n 1, 1) := by decide +kernel
theorem d_X11_said_82 : decode cX11_said 82 = .ok (.aaload, 1) := by decide +kernel
theorem d_X11_said_83 : decode cX11_said 83 = .ok (.getfield 230, 3) := by decide +kernel
theorem d_X11_said_86 : decode cX11_said 86 = .ok (.invokevirtual 231, 3) := by decide +kernel
theorem d_X11_said_89 : decode cX11_said 89 = .ok (.istore 6, 2) := by decide +kernel
theorem d_X11_said_91 : decode cX11_said 91 = .ok (.aload_n 0, 1) := by decide +kernel
theorem d_X11_said_92 : decode cX11_said 92 = .ok (.getfield 10, 3) := by decide +kernel
theorem d_X11_said_95 : decode cX11_said 95 = .ok (.getfield 235, 3) := by decide +kernel
theorem d_X11_said_98 : decode cX11_said 98 = .ok (.aload_n 0, 1) := by decide +kernel
theorem d_X11_said_99 : decode cX11_said 99 = .ok (.getfield 10, 3) := by decide +kernel
theorem d_X11_said_102 : decode cX11_said 102 = .ok (.getfield 220, 3) := by decide +kernel
theorem d_X11_said_105 : decode cX11_said 105 = .ok (.aaload, 1) := by decide +kernel
theorem d_X11_said_106 : decode cX11_said 106 = .ok (.astore 7, 2) := by decide +kernel
theorem d_X11_said_108 : decode cX11_said 108 = .ok (.aload 7, 2) := by decide +kernel
theorem d_X11_said_110 : decode cX11_said 110 = .ok (.iload 4, 2) := by decide +kernel
theorem d_X11_said_112 : decode cX11_said 112 = .ok (.ifCond .eq 8, 3) := by decide +kernel
theorem d_X11_said_115 : decode cX11_said 115 = .ok (.iload 6, 2) := by decide +kernel
theorem d_X11_said_117 : decode cX11_said 117 = .ok (.goto 10, 3) := by decide +kernel
theorem d_X11_said_120 : decode cX11_said 120 = .ok (.ldc 239, 2) := by decide +kernel
theorem d_X11_said_122 : decode cX11_said 122 = .ok (.iload 6, 2) := by decide +kernel
theorem d_X11_said_124 : decode cX11_said 124 = .ok (.iconst (-1), 1) := by decide +kernel
theorem d_X11_said_125 : decode cX11_said 125 = .ok (.ixor, 1) := by decide +kernel
theorem d_X11_said_126 : decode cX11_said 126 = .ok (.iand, 1) := by decide +kernel
theorem d_X11_said_127 : decode cX11_said 127 = .ok (.putfield 240, 3) := by decide +kernel
theorem d_X11_said_130 : decode cX11_said 130 = .ok (.aload 7, 2) := by decide +kernel
theorem d_X11_said_132 : decode cX11_said 132 = .ok (.iload_n 2, 1) := by decide +kernel
theorem d_X11_said_133 : decode cX11_said 133 = .ok (.putfield 245, 3) := by decide +kernel
theorem d_X11_said_136 : decode cX11_said 136 = .ok (.aload 7, 2) := by decide +kernel
theorem d_X11_said_138 : decode cX11_said 138 = .ok (.iload_n 3, 1) := by decide +kernel
theorem d_X11_said_139 : decode cX11_said 139 = .ok (.putfield 246, 3) := by decide +kernel
theorem d_X11_said_142 : decode cX11_said 142 = .ok (.aload_n 0, 1) := by decide +kernel
theorem d_X11_said_143 : decode cX11_said 143 = .ok (.getfield 10, 3) := by decide +kernel
theorem d_X11_said_146 : decode cX11_said 146 = .ok (.dup, 1) := by decide +kernel
theorem d_X11_said_147 : decode cX11_said 147 = .ok (.getfield 220, 3) := by decide +kernel
theorem d_X11_said_150 : decode cX11_said 150 = .ok (.iconst 1, 1) := by decide +kernel
theorem d_X11_said_151 : decode cX11_said 151 = .ok (.iadd, 1) := by decide +kernel
theorem d_X11_said_152 : decode cX11_said 152 = .ok (.putfield 220, 3) := by decide +kernel
theorem d_X11_said_155 : decode cX11_said 155 = .ok (.aload_n 0, 1) := by decide +kernel
theorem d_X11_said_156 : decode cX11_said 156 = .ok (.getfield 10, 3) := by decide +kernel
theorem d_X11_said_159 : decode cX11_said 159 = .ok (.getfield 220, 3) := by decide +kernel
theorem d_X11_said_162 : decode cX11_said 162 = .ok (.iconst 1, 1) := by decide +kernel
theorem d_X11_said_163 : decode cX11_said 163 = .ok (.isub, 1) := by decide +kernel
theorem d_X11_said_164 : decode cX11_said 164 = .ok (.ireturn, 1) := by decide +kernel
set_option maxHeartbeats 4000000 in
set_option maxRecDepth 100000 in
theorem t_X11_said_127 {X : XT_x} {G : GT_g} {z : (Mem_m × Int)} (C : Cx_ (K_X11_said) X G) (hR : Rx_ X G (some .int)) (M : Mem_m) (x0 : Nat) (x2 : Int) (x3 : Int) (x7 : Nat) (s0 : Int) (s1 : Nat) (o_x2 : ok_i x2) (o_x3 : ok_i x3) (o_s0 : ok_i s0) (h : f_X11_said_127 G.2.2.2 M x0 x2 x3 x7 s0 s1 = some z) : V_ (K_X11_said) X G (Fq_ X G (Qi_ G z.1 z.2)) M 127 [(0, .ref (G.1 + x0)), (2, iv_i x2), (3, iv_i x3), (7, .ref (G.1 + x7))] [iv_i s0, .ref (G.1 + s1)] := by
  unfold f_X11_said_127 at h
  refine V_putI C ck_8 fw_X11_240 fp_8_2 d_X11_said_127 o_s0 h (fun M1 h => ?_)
  refine V_aload (j := 3) C d_X11_said_130 rfl ?_
  refine V_iload_n (j := 1) C d_X11_said_132 rfl rfl ?_
  refine V_putI C ck_8 fw_X11_245 fp_8_0 d_X11_said_133 o_x2 h (fun M2 h => ?_)
  refine V_aload (j := 3) C d_X11_said_136 rfl ?_
  refine V_iload_n (j := 2) C d_X11_said_138 rfl rfl ?_
  refine V_putI C ck_8 fw_X11_246 fp_8_1 d_X11_said_139 o_x3 h (fun M3 h => ?_)
  refine V_aload_n (j := 0) C d_X11_said_142 rfl rfl ?_
  refine V_getR C ck_11 fw_X11_10 d_X11_said_143 h (fun v4 h => ?_)
  refine V_dup C d_X11_said_146 rfl ?_
  refine V_getI C ck_0 fw_X11_220 d_X11_said_147 h (fun v5 o5 h => ?_)
  refine V_iconst C d_X11_said_150 ?_
  refine V_iadd C d_X11_said_151 ?_
  refine V_putI C ck_0 fw_X11_220 fp_0_11 d_X11_said_152 (ok_wr _) h (fun M6 h => ?_)
  refine V_aload_n (j := 0) C d_X11_said_155 rfl rfl ?_
  refine V_getR C ck_11 fw_X11_10 d_X11_said_156 h (fun v7 h => ?_)
  refine V_getI C ck_0 fw_X11_220 d_X11_said_159 h (fun v8 o8 h => ?_)
  refine V_iconst C d_X11_said_162 ?_
  refine V_isub C d_X11_said_163 ?_
  exact V_iret_w C hR d_X11_said_164 (ok_wr _) h
set_option maxHeartbeats 4000000 in
set_option maxRecDepth 100000 in
theorem t_X11_said {X : XT_x} {G : GT_g} {M : Mem_m} {z : (Mem_m × Int)} (C : Cx_ (K_X11_said) X G) (hR : Rx_ X G (some .int)) (x0 : Nat) (x1 : Int) (x2 : Int) (x3 : Int) (x4 : Int) (o_x1 : ok_i x1) (o_x2 : ok_i x2) (o_x3 : ok_i x3) (o_x4 : ok_i x4) (h : f_X11_said G.2.2.2 M x0 x1 x2 x3 x4 = some z) : V_ (K_X11_said) X G (Fq_ X G (Qi_ G z.1 z.2)) M 0 [(0, .ref (G.1 + x0)), (1, iv_i x1), (2, iv_i x2), (3, iv_i x3), (4, iv_i x4)] [] := by
  unfold f_X11_said at h
  refine V_iload_n (j := 1) C d_X11_said_0 rfl rfl ?_
  refine V_bipush (v := 8) C d_X11_said_1 rfl ?_
  refine V_callSri (K' := K_X11_isIn) (av := [iv_i x1, iv_i 8]) (rest := []) ys_X11_isIn C (yk_X11_isIn) l1_X11_61 (by decide) d_X11_said_3 (fun v hv => ct_X11_isIn x1 8 o_x1 (okc rfl) hv) rfl rfl (Nat.le_of_ble_eq_true rfl) h (fun v1 o1 h => ?_)
  refine V_if_eq (tgt := 28) C d_X11_said_6 (by decide) o1 h (fun h => ?_) (fun h => ?_)
  · skip
    refine V_iconst C d_X11_said_28 ?_
    exact V_iret_w C hR d_X11_said_29 (okc rfl) h
  · skip
    refine V_iload_n (j := 2) C d_X11_said_9 rfl rfl ?_
    refine V_bipush (v := 8) C d_X11_said_10 rfl ?_
    refine V_callSri (K' := K_X11_isIn) (av := [iv_i x2, iv_i 8]) (rest := []) ys_X11_isIn C (yk_X11_isIn) l1_X11_61 (by decide) d_X11_said_12 (fun v hv => ct_X11_isIn x2 8 o_x2 (okc rfl) hv) rfl rfl (Nat.le_of_ble_eq_true rfl) h (fun v2 o2 h => ?_)
    refine V_if_eq (tgt := 28) C d_X11_said_15 (by decide) o2 h (fun h => ?_) (fun h => ?_)
    · skip
      refine V_iconst C d_X11_said_28 ?_
      exact V_iret_w C hR d_X11_said_29 (okc rfl) h
    · skip
      refine V_iload_n (j := 3) C d_X11_said_18 rfl rfl ?_
      refine V_sipush (v := 1000) C d_X11_said_19 rfl ?_
      refine V_callSri (K' := K_X11_isIn) (av := [iv_i x3, iv_i 1000]) (rest := []) ys_X11_isIn C (yk_X11_isIn) l1_X11_61 (by decide) d_X11_said_22 (fun v hv => ct_X11_isIn x3 1000 o_x3 (okc rfl) hv) rfl rfl (Nat.le_of_ble_eq_true rfl) h (fun v3 o3 h => ?_)
      refine V_if_ne (tgt := 30) C d_X11_said_25 (by decide) o3 h (fun h => ?_) (fun h => ?_)
      · skip
        refine V_iconst C d_X11_said_28 ?_
        exact V_iret_w C hR d_X11_said_29 (okc rfl) h
      · skip
        refine V_aload_n (j := 0) C d_X11_said_30 rfl rfl ?_
        refine V_getR C ck_11 fw_X11_10 d_X11_said_31 h (fun v4 h => ?_)
        refine V_getI C ck_0 fw_X11_220 d_X11_said_34 h (fun v5 o5 h => ?_)
        refine V_bipush (v := 20) C d_X11_said_37 rfl ?_
        refine V_icmp_lt (tgt := 45) C d_X11_said_39 (by decide) o5 (okc rfl) h (fun h => ?_) (fun h => ?_)
        · skip
          refine V_aload_n (j := 0) C d_X11_said_45 rfl rfl ?_
          refine V_getR C ck_11 fw_X11_21 d_X11_said_46 h (fun v6 h => ?_)
          refine V_iload_n (j := 1) C d_X11_said_49 rfl rfl ?_
          refine V_aald (t := 5) C tc_5 d_X11_said_50 o_x1 h (fun v7 h => ?_)
          refine V_callSri (K' := K_X11_refusalOfSaying) (av := [.ref (G.1 + v7)]) (rest := []) ys_X11_refusalOfSaying C (yk_X11_refusalOfSaying) l1_X11_223 (by decide) d_X11_said_51 (fun v hv => ct_X11_refusalOfSaying v7 hv) rfl rfl (Nat.le_of_ble_eq_true rfl) h (fun v8 o8 h => ?_)
          refine V_istore (lv' := [(5, iv_i v8), (0, .ref (G.1 + x0)), (1, iv_i x1), (2, iv_i x2), (3, iv_i x3), (4, iv_i x4)]) C d_X11_said_54 (by decide) rfl ?_
          refine V_iload (j := 0) C d_X11_said_56 rfl ?_
          refine V_if_eq (tgt := 64) C d_X11_said_58 (by decide) o8 h (fun h => ?_) (fun h => ?_)
          · skip
            refine V_aload_n (j := 1) C d_X11_said_64 rfl rfl ?_
            refine V_getR C ck_11 fw_X11_42 d_X11_said_65 h (fun v9 h => ?_)
            refine V_aload_n (j := 1) C d_X11_said_68 rfl rfl ?_
            refine V_getR C ck_11 fw_X11_21 d_X11_said_69 h (fun v10 h => ?_)
            refine V_iload_n (j := 2) C d_X11_said_72 rfl rfl ?_
            refine V_aald (t := 5) C tc_5 d_X11_said_73 o_x1 h (fun v11 h => ?_)
            refine V_getR C ck_9 fw_X11_227 d_X11_said_74 h (fun v12 h => ?_)
            refine V_aload_n (j := 1) C d_X11_said_77 rfl rfl ?_
            refine V_getR C ck_11 fw_X11_21 d_X11_said_78 h (fun v13 h => ?_)
            refine V_iload_n (j := 2) C d_X11_said_81 rfl rfl ?_
            refine V_aald (t := 5) C tc_5 d_X11_said_82 o_x1 h (fun v14 h => ?_)
            refine V_getI C ck_9 fw_X11_230 d_X11_said_83 h (fun v15 o15 h => ?_)
            refine V_callVri (K' := K_X6_fitting) (a := v9) (ci := 6) (av := [.ref (G.1 + v12), iv_i v15]) (rest := []) yi_X6_fitting (by decide) rfl C (yk_X6_fitting) l1_X11_231 (by decide) d_X11_said_86 (fun v hv => ct_X6_fitting v9 v12 v15 o15 hv) rfl rfl (Nat.le_of_ble_eq_true rfl) h (fun v16 o16 h => ?_)
            refine V_istore (lv' := [(6, iv_i v16), (5, iv_i v8), (0, .ref (G.1 + x0)), (1, iv_i x1), (2, iv_i x2), (3, iv_i x3), (4, iv_i x4)]) C d_X11_said_89 (by decide) rfl ?_
            refine V_aload_n (j := 2) C d_X11_said_91 rfl rfl ?_
            refine V_getR C ck_11 fw_X11_10 d_X11_said_92 h (fun v17 h => ?_)
            refine V_getR C ck_0 fw_X11_235 d_X11_said_95 h (fun v18 h => ?_)
            refine V_aload_n (j := 2) C d_X11_said_98 rfl rfl ?_
            refine V_getR C ck_11 fw_X11_10 d_X11_said_99 h (fun v19 h => ?_)
            refine V_getI C ck_0 fw_X11_220 d_X11_said_102 h (fun v20 o20 h => ?_)
            refine V_aald (t := 3) C tc_3 d_X11_said_105 o20 h (fun v21 h => ?_)
            refine V_astore (lv' := [(7, .ref (G.1 + v21)), (6, iv_i v16), (5, iv_i v8), (0, .ref (G.1 + x0)), (1, iv_i x1), (2, iv_i x2), (3, iv_i x3), (4, iv_i x4)]) C d_X11_said_106 (by decide) rfl ?_
            refine V_aload (j := 0) C d_X11_said_108 rfl ?_
            refine V_iload (j := 7) C d_X11_said_110 rfl ?_
            refine V_if_eq (tgt := 120) C d_X11_said_112 (by decide) o_x4 h (fun h => ?_) (fun h => ?_)
            · skip
              refine V_ldc (v := 16777215) C d_X11_said_120 cn_X11_239 ?_
              refine V_iload (j := 1) C d_X11_said_122 rfl ?_
              refine V_iconst C d_X11_said_124 ?_
              refine V_ixor C d_X11_said_125 ?_
              refine V_iand C d_X11_said_126 ?_
              refine V_lv [3, 5, 6, 0] rfl (t_X11_said_127 C hR M x0 x2 x3 v21 (an_i 16777215 (xo_i v16 (-1))) v21 o_x2 o_x3 (ok_I _) h)
            · skip
              refine V_iload (j := 1) C d_X11_said_115 rfl ?_
              refine V_goto (tgt := 127) C d_X11_said_117 (by decide) ?_
              refine V_lv [3, 5, 6, 0] rfl (t_X11_said_127 C hR M x0 x2 x3 v21 v16 v21 o_x2 o_x3 o16 h)
          · skip
            refine V_iload (j := 0) C d_X11_said_61 rfl ?_
            exact V_iret_w C hR d_X11_said_63 o8 h
        · skip
          refine V_bipush (v := (-2)) C d_X11_said_42 rfl ?_
          exact V_iret_w C hR d_X11_said_44 (okc rfl) h
set_option maxHeartbeats 4000000 in
set_option maxRecDepth 100000 in
theorem ct_X11_said {l : Launch} {G : GT_g} {M : Mem_m} (x0 : Nat) (x1 : Int) (x2 : Int) (x3 : Int) (x4 : Int) (o_x1 : ok_i x1) (o_x2 : ok_i x2) (o_x3 : ok_i x3) (o_x4 : ok_i x4) {z : (Mem_m × Int)} (h : f_X11_said G.2.2.2 M x0 x1 x2 x3 x4 = some z) : MI_ l yX11_said K_X11_said (some .int) G M [.ref (G.1 + x0), iv_i x1, iv_i x2, iv_i x3, iv_i x4] z.1 z.2 :=
  met_of (by decide +kernel) rfl (Nat.le_of_ble_eq_true rfl) (fun X hl C hR => by subst hl; exact t_X11_said C hR x0 x1 x2 x3 x4 o_x1 o_x2 o_x3 o_x4 h)
theorem d_X11_isVillageOrAll_0 : decode cX11_isVillageOrAll 0 = .ok (.iload_n 0, 1) := by decide +kernel
theorem d_X11_isVillageOrAll_1 : decode cX11_isVillageOrAll 1 = .ok (.iconst (-1), 1) := by decide +kernel
theorem d_X11_isVillageOrAll_2 : decode cX11_isVillageOrAll 2 = .ok (.if_icmp .eq 11, 3) := by decide +kernel
theorem d_X11_isVillageOrAll_5 : decode cX11_isVillageOrAll 5 = .ok (.iload_n 0, 1) := by decide +kernel
theorem d_X11_isVillageOrAll_6 : decode cX11_isVillageOrAll 6 = .ok (.iconst 4, 1) := by decide +kernel
theorem d_X11_isVillageOrAll_7 : decode cX11_isVillageOrAll 7 = .ok (.invokestatic 61, 3) := by decide +kernel
theorem d_X11_isVillageOrAll_10 : decode cX11_isVillageOrAll 10 = .ok (.ifCond .eq 7, 3) := by decide +kernel
theorem d_X11_isVillageOrAll_13 : decode cX11_isVillageOrAll 13 = .ok (.iconst 1, 1) := by decide +kernel
theorem d_X11_isVillageOrAll_14 : decode cX11_isVillageOrAll 14 = .ok (.goto 4, 3) := by decide +kernel
theorem d_X11_isVillageOrAll_17 : decode cX11_isVillageOrAll 17 = .ok (.iconst 0, 1) := by decide +kernel
theorem d_X11_isVillageOrAll_18 : decode cX11_isVillageOrAll 18 = .ok (.ireturn, 1) := by decide +kernel
set_option maxHeartbeats 4000000 in
set_option maxRecDepth 100000 in
theorem t_X11_isVillageOrAll {X : XT_x} {G : GT_g} {M : Mem_m} {z : Int} (C : Cx_ (K_X11_isVillageOrAll) X G) (hR : Rx_ X G (some .boolean)) (x0 : Int) (o_x0 : ok_i x0) (h : f_X11_isVillageOrAll G.2.2.2 M x0 = some z) : V_ (K_X11_isVillageOrAll) X G (Fq_ X G (Qi_ G M z)) M 0 [(0, iv_i x0)] [] := by
  unfold f_X11_isVillageOrAll at h
  refine V_iload_n (j := 0) C d_X11_isVillageOrAll_0 rfl rfl ?_
  refine V_iconst C d_X11_isVillageOrAll_1 ?_
  refine V_icmp_eq (tgt := 13) C d_X11_isVillageOrAll_2 (by decide) o_x0 (okc rfl) h (fun h => ?_) (fun h => ?_)
  · skip
    refine V_iconst C d_X11_isVillageOrAll_13 ?_
    refine V_goto (tgt := 18) C d_X11_isVillageOrAll_14 (by decide) ?_
    exact V_zret_r C hR d_X11_isVillageOrAll_18 (Or.inr rfl) h
  · skip
    refine V_iload_n (j := 0) C d_X11_isVillageOrAll_5 rfl rfl ?_
    refine V_iconst C d_X11_isVillageOrAll_6 ?_
    refine V_callSri (K' := K_X11_isIn) (av := [iv_i x0, iv_i 4]) (rest := []) ys_X11_isIn C (yk_X11_isIn) l1_X11_61 (by decide) d_X11_isVillageOrAll_7 (fun v hv => ct_X11_isIn x0 4 o_x0 (okc rfl) hv) rfl rfl (Nat.le_of_ble_eq_true rfl) h (fun v1 o1 h => ?_)
    refine V_if_eq (tgt := 17) C d_X11_isVillageOrAll_10 (by decide) o1 h (fun h => ?_) (fun h => ?_)
    · skip
      refine V_iconst C d_X11_isVillageOrAll_17 ?_
      exact V_zret_r C hR d_X11_isVillageOrAll_18 (Or.inl rfl) h
    · skip
      refine V_iconst C d_X11_isVillageOrAll_13 ?_
      refine V_goto (tgt := 18) C d_X11_isVillageOrAll_14 (by decide) ?_
      exact V_zret_r C hR d_X11_isVillageOrAll_18 (Or.inr rfl) h
set_option maxHeartbeats 4000000 in
set_option maxRecDepth 100000 in
theorem ct_X11_isVillageOrAll {l : Launch} {G : GT_g} {M : Mem_m} (x0 : Int) (o_x0 : ok_i x0) {z : Int} (h : f_X11_isVillageOrAll G.2.2.2 M x0 = some z) : MI_ l yX11_isVillageOrAll K_X11_isVillageOrAll (some .boolean) G M [iv_i x0] M z :=
  met_of (by decide +kernel) rfl (Nat.le_of_ble_eq_true rfl) (fun X hl C hR => by subst hl; exact t_X11_isVillageOrAll C hR x0 o_x0 h)
theorem d_X11_orders_0 : decode cX11_orders 0 = .ok (.iload_n 1, 1) := by decide +kernel
theorem d_X11_orders_1 : decode cX11_orders 1 = .ok (.invokestatic 247, 3) := by decide +kernel
theorem d_X11_orders_4 : decode cX11_orders 4 = .ok (.ifCond .eq 8, 3) := by decide +kernel
theorem d_X11_orders_7 : decode cX11_orders 7 = .ok (.iload_n 2, 1) := by decide +kernel
theorem d_X11_orders_8 : decode cX11_orders 8 = .ok (.iconst (-1), 1) := by decide +kernel
theorem d_X11_orders_9 : decode cX11_orders 9 = .ok (.if_icmp .ge 5, 3) := by decide +kernel
theorem d_X11_orders_12 : decode cX11_orders 12 = .ok (.iconst (-1), 1) := by decide +kernel
theorem d_X11_orders_13 : decode cX11_orders 13 = .ok (.ireturn, 1) := by decide +kernel
theorem d_X11_orders_14 : decode cX11_orders 14 = .ok (.aload_n 0, 1) := by decide +kernel
theorem d_X11_orders_15 : decode cX11_orders 15 = .ok (.getfield 10, 3) := by decide +kernel
theorem d_X11_orders_18 : decode cX11_orders 18 = .ok (.iload_n 1, 1) := by decide +kernel
theorem d_X11_orders_19 : decode cX11_orders 19 = .ok (.invokevirtual 250, 3) := by decide +kernel
theorem d_X11_orders_22 : decode cX11_orders 22 = .ok (.istore_n 3, 1) := by decide +kernel
theorem d_X11_orders_23 : decode cX11_orders 23 = .ok (.iload_n 2, 1) := by decide +kernel
theorem d_X11_orders_24 : decode cX11_orders 24 = .ok (.iconst (-1), 1) := by decide +kernel
theorem d_X11_orders_25 : decode cX11_orders 25 = .ok (.if_icmp .ne 8, 3) := by decide +kernel
theorem d_X11_orders_28 : decode cX11_orders 28 = .ok (.iload_n 3, 1) := by decide +kernel
theorem d_X11_orders_29 : decode cX11_orders 29 = .ok (.invokestatic 253, 3) := by decide +kernel
theorem d_X11_orders_32 : decode cX11_orders 32 = .ok (.ireturn, 1) := by decide +kernel
theorem d_X11_orders_33 : decode cX11_orders 33 = .ok (.iconst 0, 1) := by decide +kernel
theorem d_X11_orders_34 : decode cX11_orders 34 = .ok (.istore 4, 2) := by decide +kernel
theorem d_X11_orders_36 : decode cX11_orders 36 = .ok (.iconst 0, 1) := by decide +kernel
theorem d_X11_orders_37 : decode cX11_orders 37 = .ok (.istore 5, 2) := by decide +kernel
theorem d_X11_orders_39 : decode cX11_orders 39 = .ok (.iload 5, 2) := by decide +kernel
theorem d_X11_orders_41 : decode cX11_orders 41 = .ok (.bipush 24, 2) := by decide +kernel
theorem d_X11_orders_43 : decode cX11_orders 43 = .ok (.if_icmp .ge 31, 3) := by decide +kernel
theorem d_X11_orders_46 : decode cX11_orders 46 = .ok (.iload_n 3, 1) := by decide +kernel
theorem d_X11_orders_47 : decode cX11_orders 47 = .ok (.iload 5, 2) := by decide +kernel
theorem d_X11_orders_49 : decode cX11_orders 49 = .ok (.ishr, 1) := by decide +kernel
theorem d_X11_orders_50 : decode cX11_orders 50 = .ok (.iconst 1, 1) := by decide +kernel
theorem d_X11_orders_51 : decode cX11_orders 51 = .ok (.iand, 1) := by decide +kernel
theorem d_X11_orders_52 : decode cX11_orders 52 = .ok (.iconst 1, 1) := by decide +kernel
theorem d_X11_orders_53 : decode cX11_orders 53 = .ok (.if_icmp .ne 15, 3) := by decide +kernel
theorem d_X11_orders_56 : decode cX11_orders 56 = .ok (.iload 4, 2) := by decide +kernel
theorem d_X11_orders_58 : decode cX11_orders 58 = .ok (.iload_n 2, 1) := by decide +kernel
theorem d_X11_orders_59 : decode cX11_orders 59 = .ok (.if_icmp .ne 6, 3) := by decide +kernel
theorem d_X11_orders_62 : decode cX11_orders 62 = .ok (.iload 5, 2) := by decide +kernel
theorem d_X11_orders_64 : decode cX11_orders 64 = .ok (.ireturn, 1) := by decide +kernel
theorem d_X11_orders_65 : decode cX11_orders 65 = .ok (.iinc 4 1, 3) := by decide +kernel
theorem d_X11_orders_68 : decode cX11_orders 68 = .ok (.iinc 5 1, 3) := by decide +kernel
theorem d_X11_orders_71 : decode cX11_orders 71 = .ok (.goto (-32), 3) := by decide +kernel
theorem d_X11_orders_74 : decode cX11_orders 74 = .ok (.bipush (-4), 2) := by decide +kernel
theorem d_X11_orders_76 : decode cX11_orders 76 = .ok (.ireturn, 1) := by decide +kernel
set_option maxHeartbeats 4000000 in
set_option maxRecDepth 100000 in
theorem t_X11_orders_39 {X : XT_x} {G : GT_g} {z : Int} (C : Cx_ (K_X11_orders) X G) (hR : Rx_ X G (some .int)) (M : Mem_m) (x2 : Int) (x3 : Int) (o_x2 : ok_i x2) (o_x3 : ok_i x3) : ∀ (n : Nat) (x4 : Int) (x5 : Int) (o_x4 : ok_i x4) (o_x5 : ok_i x5), f_X11_orders_39 G.2.2.2 M x2 x3 n x4 x5 = some z → V_ (K_X11_orders) X G (Fq_ X G (Qi_ G M z)) M 39 [(2, iv_i x2), (3, iv_i x3), (4, iv_i x4), (5, iv_i x5)] [] := by
  intro n
  induction n with
  | zero => intro x4 x5 o_x4 o_x5 h; exact absurd h (by simp [f_X11_orders_39])
  | succ n ih =>
    intro x4 x5 o_x4 o_x5 h
    unfold f_X11_orders_39 at h
    refine V_iload (j := 3) C d_X11_orders_39 rfl ?_
    refine V_bipush (v := 24) C d_X11_orders_41 rfl ?_
    refine V_icmp_ge (tgt := 74) C d_X11_orders_43 (by decide) o_x5 (okc rfl) h (fun h => ?_) (fun h => ?_)
    · skip
      refine V_iload_n (j := 1) C d_X11_orders_46 rfl rfl ?_
      refine V_iload (j := 3) C d_X11_orders_47 rfl ?_
      refine V_ishr C d_X11_orders_49 ?_
      refine V_iconst C d_X11_orders_50 ?_
      refine V_iand C d_X11_orders_51 ?_
      refine V_iconst C d_X11_orders_52 ?_
      refine V_icmp_ne (tgt := 68) C d_X11_orders_53 (by decide) (ok_I _) (okc rfl) h (fun h => ?_) (fun h => ?_)
      · skip
        refine V_iload (j := 2) C d_X11_orders_56 rfl ?_
        refine V_iload_n (j := 0) C d_X11_orders_58 rfl rfl ?_
        refine V_icmp_ne (tgt := 65) C d_X11_orders_59 (by decide) o_x4 o_x2 h (fun h => ?_) (fun h => ?_)
        · skip
          refine V_iload (j := 3) C d_X11_orders_62 rfl ?_
          exact V_iret_r C hR d_X11_orders_64 o_x5 h
        · skip
          refine V_iinc (j := 2) (lv' := [(4, iv_i (wr_i (x4 + 1))), (2, iv_i x2), (3, iv_i x3), (5, iv_i x5)]) C d_X11_orders_65 rfl (by decide) rfl ?_
          refine V_iinc (j := 3) (lv' := [(5, iv_i (wr_i (x5 + 1))), (4, iv_i (wr_i (x4 + 1))), (2, iv_i x2), (3, iv_i x3)]) C d_X11_orders_68 rfl (by decide) rfl ?_
          refine V_goto (tgt := 39) C d_X11_orders_71 (by decide) ?_
          refine V_lv [2, 3, 1, 0] rfl (ih (wr_i (x4 + 1)) (wr_i (x5 + 1)) (ok_wr _) (ok_wr _) h)
      · skip
        refine V_iinc (j := 3) (lv' := [(5, iv_i (wr_i (x5 + 1))), (2, iv_i x2), (3, iv_i x3), (4, iv_i x4)]) C d_X11_orders_68 rfl (by decide) rfl ?_
        refine V_goto (tgt := 39) C d_X11_orders_71 (by decide) ?_
        refine V_lv [1, 2, 3, 0] rfl (ih x4 (wr_i (x5 + 1)) o_x4 (ok_wr _) h)
    · skip
      refine V_bipush (v := (-4)) C d_X11_orders_74 rfl ?_
      exact V_iret_r C hR d_X11_orders_76 (okc rfl) h
set_option maxHeartbeats 4000000 in
set_option maxRecDepth 100000 in
theorem t_X11_orders {X : XT_x} {G : GT_g} {M : Mem_m} {z : Int} (C : Cx_ (K_X11_orders) X G) (hR : Rx_ X G (some .int)) (x0 : Nat) (x1 : Int) (x2 : Int) (o_x1 : ok_i x1) (o_x2 : ok_i x2) (h : f_X11_orders G.2.2.2 M x0 x1 x2 = some z) : V_ (K_X11_orders) X G (Fq_ X G (Qi_ G M z)) M 0 [(0, .ref (G.1 + x0)), (1, iv_i x1), (2, iv_i x2)] [] := by
  unfold f_X11_orders at h
  refine V_iload_n (j := 1) C d_X11_orders_0 rfl rfl ?_
  refine V_callSri (K' := K_X11_isVillageOrAll) (av := [iv_i x1]) (rest := []) ys_X11_isVillageOrAll C (yk_X11_isVillageOrAll) l1_X11_247 (by decide) d_X11_orders_1 (fun v hv => ct_X11_isVillageOrAll x1 o_x1 hv) rfl rfl (Nat.le_of_ble_eq_true rfl) h (fun v1 o1 h => ?_)
  refine V_if_eq (tgt := 12) C d_X11_orders_4 (by decide) o1 h (fun h => ?_) (fun h => ?_)
  · skip
    refine V_iconst C d_X11_orders_12 ?_
    exact V_iret_r C hR d_X11_orders_13 (okc rfl) h
  · skip
    refine V_iload_n (j := 2) C d_X11_orders_7 rfl rfl ?_
    refine V_iconst C d_X11_orders_8 ?_
    refine V_icmp_ge (tgt := 14) C d_X11_orders_9 (by decide) o_x2 (okc rfl) h (fun h => ?_) (fun h => ?_)
    · skip
      refine V_iconst C d_X11_orders_12 ?_
      exact V_iret_r C hR d_X11_orders_13 (okc rfl) h
    · skip
      refine V_aload_n (j := 0) C d_X11_orders_14 rfl rfl ?_
      refine V_getR C ck_11 fw_X11_10 d_X11_orders_15 h (fun v2 h => ?_)
      refine V_iload_n (j := 1) C d_X11_orders_18 rfl rfl ?_
      refine V_callVri (K' := K_X0_setOfOrders) (a := v2) (ci := 0) (av := [iv_i x1]) (rest := []) yi_X0_setOfOrders (by decide) rfl C (yk_X0_setOfOrders) l1_X11_250 (by decide) d_X11_orders_19 (fun v hv => ct_X0_setOfOrders v2 x1 o_x1 hv) rfl rfl (Nat.le_of_ble_eq_true rfl) h (fun v3 o3 h => ?_)
      refine V_istore_n (lv' := [(3, iv_i v3), (0, .ref (G.1 + x0)), (1, iv_i x1), (2, iv_i x2)]) C d_X11_orders_22 rfl (by decide) rfl ?_
      refine V_iload_n (j := 3) C d_X11_orders_23 rfl rfl ?_
      refine V_iconst C d_X11_orders_24 ?_
      refine V_icmp_ne (tgt := 33) C d_X11_orders_25 (by decide) o_x2 (okc rfl) h (fun h => ?_) (fun h => ?_)
      · skip
        refine V_iload_n (j := 0) C d_X11_orders_28 rfl rfl ?_
        refine V_callSri (K' := K_J6_bitCount_0f7a4) (av := [iv_i v3]) (rest := []) ys_J6_bitCount_0f7a4 C (yk_J6_bitCount_0f7a4) l1_X11_253 (by decide) d_X11_orders_29 (fun v hv => ct_J6_bitCount_0f7a4 v3 o3 hv) rfl rfl (Nat.le_of_ble_eq_true rfl) h (fun v4 o4 h => ?_)
        exact V_iret_r C hR d_X11_orders_32 o4 h
      · skip
        refine V_iconst C d_X11_orders_33 ?_
        refine V_istore (lv' := [(4, iv_i 0), (3, iv_i v3), (0, .ref (G.1 + x0)), (1, iv_i x1), (2, iv_i x2)]) C d_X11_orders_34 (by decide) rfl ?_
        refine V_iconst C d_X11_orders_36 ?_
        refine V_istore (lv' := [(5, iv_i 0), (4, iv_i 0), (3, iv_i v3), (0, .ref (G.1 + x0)), (1, iv_i x1), (2, iv_i x2)]) C d_X11_orders_37 (by decide) rfl ?_
        refine V_lv [5, 2, 1, 0] rfl (t_X11_orders_39 C hR M x2 v3 o_x2 o3 FU_ 0 0 (okc rfl) (okc rfl) h)
set_option maxHeartbeats 4000000 in
set_option maxRecDepth 100000 in
theorem ct_X11_orders {l : Launch} {G : GT_g} {M : Mem_m} (x0 : Nat) (x1 : Int) (x2 : Int) (o_x1 : ok_i x1) (o_x2 : ok_i x2) {z : Int} (h : f_X11_orders G.2.2.2 M x0 x1 x2 = some z) : MI_ l yX11_orders K_X11_orders (some .int) G M [.ref (G.1 + x0), iv_i x1, iv_i x2] M z :=
  met_of (by decide +kernel) rfl (Nat.le_of_ble_eq_true rfl) (fun X hl C hR => by subst hl; exact t_X11_orders C hR x0 x1 x2 o_x1 o_x2 h)
