/-! TongueBook.element, which throws; the law's own element, which catches -/
theorem d_X11_element_0 : decode cX11_element 0 = .ok (.iload_n 1, 1) := by decide +kernel
theorem d_X11_element_1 : decode cX11_element 1 = .ok (.bipush 8, 2) := by decide +kernel
theorem d_X11_element_3 : decode cX11_element 3 = .ok (.invokestatic 61, 3) := by decide +kernel
theorem d_X11_element_6 : decode cX11_element 6 = .ok (.ifCond .ne 14, 3) := by decide +kernel
theorem d_X11_element_9 : decode cX11_element 9 = .ok (.new 349, 3) := by decide +kernel
theorem d_X11_element_12 : decode cX11_element 12 = .ok (.dup, 1) := by decide +kernel
theorem d_X11_element_13 : decode cX11_element 13 = .ok (.ldc_w 351, 3) := by decide +kernel
theorem d_X11_element_16 : decode cX11_element 16 = .ok (.invokespecial 353, 3) := by decide +kernel
theorem d_X11_element_19 : decode cX11_element 19 = .ok (.athrow, 1) := by decide +kernel
theorem d_X11_element_20 : decode cX11_element 20 = .ok (.aload_n 0, 1) := by decide +kernel
theorem d_X11_element_21 : decode cX11_element 21 = .ok (.getfield 21, 3) := by decide +kernel
theorem d_X11_element_24 : decode cX11_element 24 = .ok (.iload_n 1, 1) := by decide +kernel
theorem d_X11_element_25 : decode cX11_element 25 = .ok (.aaload, 1) := by decide +kernel
theorem d_X11_element_26 : decode cX11_element 26 = .ok (.invokevirtual 343, 3) := by decide +kernel
theorem d_X11_element_29 : decode cX11_element 29 = .ok (.ifCond .eq 14, 3) := by decide +kernel
theorem d_X11_element_32 : decode cX11_element 32 = .ok (.new 356, 3) := by decide +kernel
theorem d_X11_element_35 : decode cX11_element 35 = .ok (.dup, 1) := by decide +kernel
theorem d_X11_element_36 : decode cX11_element 36 = .ok (.ldc_w 358, 3) := by decide +kernel
theorem d_X11_element_39 : decode cX11_element 39 = .ok (.invokespecial 360, 3) := by decide +kernel
theorem d_X11_element_42 : decode cX11_element 42 = .ok (.athrow, 1) := by decide +kernel
theorem d_X11_element_43 : decode cX11_element 43 = .ok (.iload_n 2, 1) := by decide +kernel
theorem d_X11_element_44 : decode cX11_element 44 = .ok (.aload_n 0, 1) := by decide +kernel
theorem d_X11_element_45 : decode cX11_element 45 = .ok (.getfield 21, 3) := by decide +kernel
theorem d_X11_element_48 : decode cX11_element 48 = .ok (.iload_n 1, 1) := by decide +kernel
theorem d_X11_element_49 : decode cX11_element 49 = .ok (.aaload, 1) := by decide +kernel
theorem d_X11_element_50 : decode cX11_element 50 = .ok (.getfield 230, 3) := by decide +kernel
theorem d_X11_element_53 : decode cX11_element 53 = .ok (.invokestatic 61, 3) := by decide +kernel
theorem d_X11_element_56 : decode cX11_element 56 = .ok (.ifCond .ne 14, 3) := by decide +kernel
theorem d_X11_element_59 : decode cX11_element 59 = .ok (.new 356, 3) := by decide +kernel
theorem d_X11_element_62 : decode cX11_element 62 = .ok (.dup, 1) := by decide +kernel
theorem d_X11_element_63 : decode cX11_element 63 = .ok (.ldc_w 361, 3) := by decide +kernel
theorem d_X11_element_66 : decode cX11_element 66 = .ok (.invokespecial 360, 3) := by decide +kernel
theorem d_X11_element_69 : decode cX11_element 69 = .ok (.athrow, 1) := by decide +kernel
theorem d_X11_element_70 : decode cX11_element 70 = .ok (.aload_n 0, 1) := by decide +kernel
theorem d_X11_element_71 : decode cX11_element 71 = .ok (.getfield 21, 3) := by decide +kernel
theorem d_X11_element_74 : decode cX11_element 74 = .ok (.iload_n 1, 1) := by decide +kernel
theorem d_X11_element_75 : decode cX11_element 75 = .ok (.aaload, 1) := by decide +kernel
theorem d_X11_element_76 : decode cX11_element 76 = .ok (.getfield 227, 3) := by decide +kernel
theorem d_X11_element_79 : decode cX11_element 79 = .ok (.iload_n 2, 1) := by decide +kernel
theorem d_X11_element_80 : decode cX11_element 80 = .ok (.iaload, 1) := by decide +kernel
theorem d_X11_element_81 : decode cX11_element 81 = .ok (.i2l, 1) := by decide +kernel
theorem d_X11_element_82 : decode cX11_element 82 = .ok (.lreturn, 1) := by decide +kernel
theorem d_L_element_0 : decode cL_element 0 = .ok (.aload_n 3, 1) := by decide +kernel
theorem d_L_element_1 : decode cL_element 1 = .ok (.iconst 0, 1) := by decide +kernel
theorem d_L_element_2 : decode cL_element 2 = .ok (.aload_n 0, 1) := by decide +kernel
theorem d_L_element_3 : decode cL_element 3 = .ok (.iload_n 1, 1) := by decide +kernel
theorem d_L_element_4 : decode cL_element 4 = .ok (.iload_n 2, 1) := by decide +kernel
theorem d_L_element_5 : decode cL_element 5 = .ok (.invokevirtual 7, 3) := by decide +kernel
theorem d_L_element_8 : decode cL_element 8 = .ok (.lastore, 1) := by decide +kernel
theorem d_L_element_9 : decode cL_element 9 = .ok (.goto 11, 3) := by decide +kernel
theorem d_L_element_12 : decode cL_element 12 = .ok (.astore 4, 2) := by decide +kernel
theorem d_L_element_14 : decode cL_element 14 = .ok (.iconst 1, 1) := by decide +kernel
theorem d_L_element_15 : decode cL_element 15 = .ok (.ireturn, 1) := by decide +kernel
theorem d_L_element_16 : decode cL_element 16 = .ok (.astore 4, 2) := by decide +kernel
theorem d_L_element_18 : decode cL_element 18 = .ok (.iconst 2, 1) := by decide +kernel
theorem d_L_element_19 : decode cL_element 19 = .ok (.ireturn, 1) := by decide +kernel
theorem d_L_element_20 : decode cL_element 20 = .ok (.iconst 0, 1) := by decide +kernel
theorem d_L_element_21 : decode cL_element 21 = .ok (.ireturn, 1) := by decide +kernel
theorem ecl_RX11_349 : Cond.classLink RX11 349 "java/lang/IllegalArgumentException" ∈ TB_t := tb_in (qt_5 (List.mem_of_getElem? (i := 26) (by decide +kernel))) rfl
theorem ecl_RX11_356 : Cond.classLink RX11 356 "java/lang/IllegalStateException" ∈ TB_t := tb_in (qt_5 (List.mem_of_getElem? (i := 93) (by decide +kernel))) rfl
theorem ecl_RL_13 : Cond.classLink RL 13 "java/lang/IllegalArgumentException" ∈ TB_t := tb_in (qt_5 (List.mem_of_getElem? (i := 20) (by decide +kernel))) rfl
theorem ecl_RL_15 : Cond.classLink RL 15 "java/lang/IllegalStateException" ∈ TB_t := tb_in (qt_5 (List.mem_of_getElem? (i := 21) (by decide +kernel))) rfl
theorem eni_IllegalArgumentException : Cond.initialized "java/lang/IllegalArgumentException" ∈ TB_t := tb_in (qt_1 (List.mem_of_getElem? (i := 21) (by decide +kernel))) rfl
theorem eca_IllegalArgumentException : Cond.castable "java/lang/IllegalArgumentException" "java/lang/IllegalArgumentException" ∈ lw_tbl := qt_5 (List.mem_of_getElem? (i := 28) (by decide +kernel))
theorem eni_IllegalStateException : Cond.initialized "java/lang/IllegalStateException" ∈ TB_t := tb_in (qt_1 (List.mem_of_getElem? (i := 22) (by decide +kernel))) rfl
theorem eca_IllegalStateException : Cond.castable "java/lang/IllegalStateException" "java/lang/IllegalStateException" ∈ lw_tbl := qt_5 (List.mem_of_getElem? (i := 95) (by decide +kernel))
theorem cde_X11 : Cond.code yX11_element cX11_element 3 (some .long) ∈ TB_t := tb_in (qt_5 (List.mem_of_getElem? (i := 25) rfl)) rfl
theorem cde_L : Cond.codeWith yL_element cL_element 5 (some .int) [(0, 9, 12, 13), (0, 9, 16, 15)] ∈ TB_t := tb_in (qt_5 (List.mem_of_getElem? (i := 19) rfl)) rfl
theorem l1_L_7 : L1_ RL 7 yX11_element := tb_in (qt_5 (List.mem_of_getElem? (i := 22) (by decide +kernel))) rfl
theorem l1_L_172 : L1_ RL 172 yL_element := tb_in (qt_5 (List.mem_of_getElem? (i := 17) (by decide +kernel))) rfl
theorem yi_el : Yi_ yX11_element := ⟨tb_in (qt_5 (List.mem_of_getElem? (i := 23) (by decide +kernel))) rfl, tb_in (qt_5 (List.mem_of_getElem? (i := 24) (by decide +kernel))) rfl⟩
theorem ys_el : Ys_ yL_element := tb_in (qt_5 (List.mem_of_getElem? (i := 18) (by decide +kernel))) rfl
theorem ein_L : Cond.initialized "TongueBookLaw" ∈ TB_t := tb_in (qt_1 (List.mem_of_getElem? (i := 0) (by decide +kernel))) rfl
def is_dec : Cond → Bool
  | .declares .. => true
  | .castable .. => true
  | _ => false
def DW_t : List Cond := lw_tbl.filter is_dec
def el_f (S : SH_s) (M : Mem_m) (x0 : Nat) (x1 x2 : Int) : Option (Int × Int) :=
  (f_X11_isIn S M x1 8).bind fun v1 =>
  if v1 = 0 then some (1, 0)
  else
    (gR_ S x0 11 3).bind fun v2 =>
    (aR_ S v2 27 x1).bind fun v3 =>
    (vc_ S v3 9 (f_X9_refusalOfRow S M v3)).bind fun v4 =>
    if v4 = 0 then
      (gR_ S x0 11 3).bind fun v5 =>
      (aR_ S v5 27 x1).bind fun v6 =>
      (gI_ S M v6 9 3).bind fun v7 =>
      (f_X11_isIn S M x2 v7).bind fun v8 =>
      if v8 = 0 then some (2, 0)
      else
        (gR_ S x0 11 3).bind fun v9 =>
        (aR_ S v9 27 x1).bind fun v10 =>
        (gR_ S v10 9 4).bind fun v11 =>
        (aI_ S M v11 x2).bind fun v12 =>
        some (0, v12)
    else some (2, 0)
def Ex_ (G : GT_g) (U : State) : Prop :=
  (∃ sa, vk_R RX11 351 "no such shelf" sa U) ∧ (∃ sa, vk_R RX11 358 "no row" sa U) ∧ (∃ sa, vk_R RX11 361 "no such place" sa U) ∧ va_Nc "java/lang/IllegalStateException" "java/lang/IllegalArgumentException" U ∧
  (∀ w ∈ DW_t, va_Nw w U) ∧
  vx_Zq Bundle.tN "UNASSIGNED_STACK" Bundle.steD (fun q => G.1 ≤ q) U U.heap ∧ vx_Zq Bundle.tN "SUPPRESSED_SENTINEL" Bundle.listD (fun q => G.1 ≤ q) U U.heap
def Pe_ (G : GT_g) (M : Mem_m) (U : State) : Prop := Wd_ G M U ∧ Ex_ G U
theorem dw_cases {w : Cond} (h : w ∈ DW_t) : (∃ x, w = .declares x) ∨ ∃ x y, w = .castable x y := by
  have h2 := (List.mem_filter.mp h).2
  cases w <;> first | exact Or.inl ⟨_, rfl⟩ | exact Or.inr ⟨_, _, rfl⟩ | (simp [is_dec] at h2)
theorem Ex_calling {G : GT_g} {U : State} {g : JFrame} {mk : MethodId} {a : Array Value} (h : Ex_ G U) : Ex_ G (U.calling g mk a) := by
  obtain ⟨⟨s1, h1⟩, ⟨s2, h2⟩, ⟨s3, h3⟩, h4, h5, h7, h8⟩ := h
  exact ⟨⟨s1, vk_R.same (u := U) rfl h1⟩, ⟨s2, vk_R.same (u := U) rfl h2⟩, ⟨s3, vk_R.same (u := U) rfl h3⟩, va_Nc.moved (u := U) (U := U.calling g mk a) (Vm.Alike.refl U.vm) h4, (fun w hw => by
      rcases dw_cases hw with ⟨x, rfl⟩ | ⟨x, y, rfl⟩
      · exact va_Nw.same (u := U) rfl rfl (h5 _ hw)
      · exact va_Nw.same (u := U) rfl rfl (h5 _ hw)),
    vx_Zq.moved (u := U) (U := U.calling g mk a) (Vm.Alike.refl U.vm) h7, vx_Zq.moved (u := U) (U := U.calling g mk a) (Vm.Alike.refl U.vm) h8⟩
theorem Pe_blind {G : GT_g} {M : Mem_m} {av : List Value} : FrameBlind (va_Pc av (Pe_ G M)) := fun a U g mk h => ⟨h.1, ⟨h.2.1.1, h.2.1.2.1, Kn_calling h.2.1.2.2⟩, Ex_calling h.2.2⟩
/-- from a state s on: what was known of it holds of a warmer state over a heap that kept what lies below B -/
theorem Ex_warm {G : GT_g} {s U : State} {H : Heap} {A : Nat → Prop} {locs : List Loc} (h : Ex_ G s) (hW : s.WarmedH U.vm) (hU : U.heap = H) (hS : va_S A s.heap H locs) (hA : ∀ q, A q → G.1 ≤ q) (hlo : G.1 ≤ s.heap.size) : Ex_ G U := by
  obtain ⟨⟨s1, h1⟩, ⟨s2, h2⟩, ⟨s3, h3⟩, h4, h5, h7, h8⟩ := h
  have hk : ∀ a : Nat, a < s.heap.size → ¬ (G.1 ≤ a) → U.heap[a]? = s.heap[a]? := fun a h1 h2 => by rw [hU]; exact hS.2.1 a h1 (fun q => h2 (hA a q))
  exact ⟨⟨s1, vk_R.warm hW h1⟩, ⟨s2, vk_R.warm hW h2⟩, ⟨s3, vk_R.warm hW h3⟩, h4.moved hW.alike, (fun w hw => by
      rcases dw_cases hw with ⟨x, rfl⟩ | ⟨x, y, rfl⟩
      · exact va_Nw.warmD hW (h5 _ hw)
      · exact va_Nw.warmC hW (h5 _ hw)), vx_Zq.kept (vx_Zq.moved hW.alike h7) hk, vx_Zq.kept (vx_Zq.moved hW.alike h8) hk⟩
abbrev K_el : KT_k := (cX11_element, 3, RX11, 12)
abbrev K_le : KT_k := (cL_element, 5, RL, 13)
theorem ewd_1 : ∀ w ∈ (vx_atS RX11 353 "java/lang/IllegalArgumentException" ["java/lang/RuntimeException", "java/lang/Exception"]).filter goodWord, w ∈ lw_tbl := by decide +kernel
theorem ewd_2 : ∀ w ∈ (vx_atS RX11 360 "java/lang/IllegalStateException" ["java/lang/RuntimeException", "java/lang/Exception"]).filter goodWord, w ∈ lw_tbl := by decide +kernel
theorem ewd_3 : ∀ w ∈ (vx_atS RX11 353 "java/lang/IllegalArgumentException" ["java/lang/RuntimeException", "java/lang/Exception"]).filter (fun w => !goodWord w), w ∈ DW_t := by decide +kernel
theorem ewd_4 : ∀ w ∈ (vx_atS RX11 360 "java/lang/IllegalStateException" ["java/lang/RuntimeException", "java/lang/Exception"]).filter (fun w => !goodWord w), w ∈ DW_t := by decide +kernel
theorem ewd_5 : ∀ w ∈ Cond.classLink RX11 349 "java/lang/IllegalArgumentException" :: Cond.initialized "java/lang/IllegalArgumentException" :: vx_atS RX11 353 "java/lang/IllegalArgumentException" ["java/lang/RuntimeException", "java/lang/Exception"], vx_ot w = true := by decide +kernel
theorem ewd_6 : ∀ w ∈ Cond.classLink RX11 356 "java/lang/IllegalStateException" :: Cond.initialized "java/lang/IllegalStateException" :: vx_atS RX11 360 "java/lang/IllegalStateException" ["java/lang/RuntimeException", "java/lang/Exception"], vx_ot w = true := by decide +kernel
theorem ewd_good {L : List Cond} (h : ∀ w ∈ L.filter goodWord, w ∈ lw_tbl) : ∀ w ∈ L.filter goodWord, w ∈ TB_t := fun w hw => tb_in (h w hw) (List.mem_filter.mp hw).2
