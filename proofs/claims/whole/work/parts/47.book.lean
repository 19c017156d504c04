theorem iob_X0_3 : Cond.methodLink RX0 3 Lib.objectInit ∈ TB_t := tb_in (qt_1 (List.mem_of_getElem? (i := 36) (by decide +kernel))) rfl
theorem ifw_X0_9 : FW_ RX0 9 0 0 := ⟨by decide, by decide, tb_in (qt_1 (List.mem_of_getElem? (i := 184) (by decide +kernel))) rfl⟩
theorem ifw_X0_15 : FW_ RX0 15 0 1 := ⟨by decide, by decide, tb_in (qt_1 (List.mem_of_getElem? (i := 187) (by decide +kernel))) rfl⟩
theorem ifw_X0_18 : FW_ RX0 18 0 2 := ⟨by decide, by decide, tb_in (qt_1 (List.mem_of_getElem? (i := 189) (by decide +kernel))) rfl⟩
theorem icl_X0_21 : Cond.classLink RX0 21 (vN_ 1) ∈ TB_t := tb_in (qt_1 (List.mem_of_getElem? (i := 37) (by decide +kernel))) rfl
theorem ifw_X0_23 : FW_ RX0 23 0 3 := ⟨by decide, by decide, tb_in (qt_1 (List.mem_of_getElem? (i := 191) (by decide +kernel))) rfl⟩
theorem icl_X0_27 : Cond.classLink RX0 27 (vN_ 5) ∈ TB_t := tb_in (qt_1 (List.mem_of_getElem? (i := 39) (by decide +kernel))) rfl
theorem ifw_X0_29 : FW_ RX0 29 0 5 := ⟨by decide, by decide, tb_in (qt_1 (List.mem_of_getElem? (i := 198) (by decide +kernel))) rfl⟩
theorem icl_X0_33 : Cond.classLink RX0 33 (vN_ 7) ∈ TB_t := tb_in (qt_1 (List.mem_of_getElem? (i := 41) (by decide +kernel))) rfl
theorem ifw_X0_35 : FW_ RX0 35 0 8 := ⟨by decide, by decide, tb_in (qt_1 (List.mem_of_getElem? (i := 209) (by decide +kernel))) rfl⟩
theorem icl_X0_39 : Cond.classLink RX0 39 (vN_ 8) ∈ TB_t := tb_in (qt_1 (List.mem_of_getElem? (i := 43) (by decide +kernel))) rfl
theorem ifw_X0_41 : FW_ RX0 41 0 10 := ⟨by decide, by decide, tb_in (qt_1 (List.mem_of_getElem? (i := 215) (by decide +kernel))) rfl⟩
theorem icl_X0_45 : Cond.classLink RX0 45 (vN_ 10) ∈ TB_t := tb_in (qt_1 (List.mem_of_getElem? (i := 45) (by decide +kernel))) rfl
theorem ifw_X0_47 : FW_ RX0 47 0 12 := ⟨by decide, by decide, tb_in (qt_1 (List.mem_of_getElem? (i := 219) (by decide +kernel))) rfl⟩
theorem ifw_X0_51 : FW_ RX0 51 0 13 := ⟨by decide, by decide, tb_in (qt_1 (List.mem_of_getElem? (i := 222) (by decide +kernel))) rfl⟩
theorem pf_0 {f : Nat → Option Nat} : pf_ f 0 = fun _ => none := by funext k; unfold pf_; rw [if_neg (by omega)]
theorem rO_s {B r i v : Nat} (h : rfK_ (kd0_ r).1 r i = v + 2) : rO_c B SH0_ r i = some (B + v) := by
  unfold rO_c
  show (match rfK_ (kd0_ r).1 r i with | 0 => none | 1 => none | r + 2 => some (B + r)) = _
  rw [h]
theorem rO_n {B r i : Nat} (h : rfK_ (kd0_ r).1 r i = 0) : rO_c B SH0_ r i = none := by
  unfold rO_c
  show (match rfK_ (kd0_ r).1 r i with | 0 => none | 1 => none | r + 2 => some (B + r)) = _
  rw [h]
/-- a filled row is what it is at the end -/
theorem ar_full {B : Nat} {D : va_G} {ca : Nat → ClassId} {M : Mem_m} {r t N : Nat} (hk : kd0_ r = (t + 22, N)) (ht : t ≠ 6) (hn : ∀ k, N ≤ k → rfK_ (t + 22) r k = 0) : ar_E ca t N (pf_ (rO_c B SH0_ r) N) = cE_c (G0_ B D ca) M r := by
  rw [cE_ref (G := G0_ B D ca) (t := t) (by show (kd0_ r).1 = _; rw [hk]) ht]
  unfold ar_E
  show Sum.inl (ca (t + 2), N, _) = Sum.inl (ca (t + 2), (kd0_ r).2, _)
  rw [hk]
  congr 7
  funext k
  unfold pf_
  by_cases h : k < N
  · rw [if_pos h]
  · rw [if_neg h, rO_n (by rw [hk]; exact hn k (by omega))]
theorem bk_k {a : Nat} (h : a = 1 ∨ a = 259) : (kd0_ a).1 = 0 ∧ kd0_ (a + 1) = (20, 10) ∧ kd0_ (a + 2) = (20, 8) ∧ kd0_ (a + 3) = (20, 8) ∧ kd0_ (a + 4) = (22, 40) ∧ kd0_ (a + 5) = (23, 16) ∧ kd0_ (a + 6) = (24, 8) ∧ kd0_ (a + 7) = (25, 20) ∧ kd0_ (a + 8) = (26, 10) ∧ kd0_ (a + 9) = (20, 10) := by
  rcases h with rfl | rfl <;> decide +kernel
theorem bk_c {a : Nat} (h : a = 1 ∨ a = 259) : ∀ i, i < 40 → (kd0_ (a + 10 + 3 * i)).1 = 1 ∧ (kd0_ (a + 10 + 3 * i + 1)).1 = 10 ∧ kd0_ (a + 10 + 3 * i + 2) = (20, 8) := by
  rcases h with rfl | rfl <;> decide +kernel
theorem bk_n {a : Nat} (h : a = 1 ∨ a = 259) : ∀ i, i < 16 → (kd0_ (a + 130 + 5 * i)).1 = 5 ∧ (kd0_ (a + 130 + 5 * i + 1)).1 = 10 ∧ kd0_ (a + 130 + 5 * i + 2) = (20, 8) ∧ (kd0_ (a + 130 + 5 * i + 3)).1 = 10 ∧ kd0_ (a + 130 + 5 * i + 4) = (20, 8) := by
  rcases h with rfl | rfl <;> decide +kernel
theorem bk_r {a : Nat} (h : a = 1 ∨ a = 259) : ∀ i, i < 8 → (kd0_ (a + 210 + 1 * i)).1 = 7 := by
  rcases h with rfl | rfl <;> decide +kernel
theorem bk_s {a : Nat} (h : a = 1 ∨ a = 259) : ∀ i, i < 20 → (kd0_ (a + 218 + 1 * i)).1 = 8 := by
  rcases h with rfl | rfl <;> decide +kernel
theorem bk_w {a : Nat} (h : a = 1 ∨ a = 259) : ∀ i, i < 10 → (kd0_ (a + 238 + 2 * i)).1 = 10 ∧ kd0_ (a + 238 + 2 * i + 1) = (20, 8) := by
  rcases h with rfl | rfl <;> decide +kernel
theorem im2_X0_54 : L2_ RX0 54 yX1_init "TongueBook" := List.mem_filter.mpr ⟨qt_1 (List.mem_of_getElem? (i := 48) (by decide +kernel)), rfl⟩
theorem im2_X0_55 : L2_ RX0 55 yX5_init "TongueBook" := List.mem_filter.mpr ⟨qt_1 (List.mem_of_getElem? (i := 115) (by decide +kernel)), rfl⟩
theorem im2_X0_56 : L2_ RX0 56 yX7_init "TongueBook" := List.mem_filter.mpr ⟨qt_1 (List.mem_of_getElem? (i := 137) (by decide +kernel)), rfl⟩
theorem im2_X0_57 : L2_ RX0 57 yX8_init "TongueBook" := List.mem_filter.mpr ⟨qt_1 (List.mem_of_getElem? (i := 163) (by decide +kernel)), rfl⟩
theorem im2_X0_58 : L2_ RX0 58 yX10_init "TongueBook" := List.mem_filter.mpr ⟨qt_1 (List.mem_of_getElem? (i := 183) (by decide +kernel)), rfl⟩
theorem I_lv {K : KT_k} {X : XT_x} {G : GT_g} {Q : State → Prop} {cc oo lo n pc : Nat} {E : Nat → va_E} {lv lv' : List (Nat × Value)} {st : List Value} (ks : List Nat) (h : lv_pick lv ks = lv') (k : I_ K X G Q cc oo lo n E pc lv' st) : I_ K X G Q cc oo lo n E pc lv st := fun H locs ls hP hS hl => k H locs ls hP hS (lv_sub hl ks h)
set_option maxHeartbeats 4000000 in
set_option maxRecDepth 100000 in
theorem in_X0 {l : Launch} {B : Nat} {D : va_G} {ca : Nat → ClassId} {M : Mem_m} {a : Nat} (ha : a = 1 ∨ a = 259) (hz : ∀ x, a ≤ x → x < (a + 258) → M x = fun _ => 0) : IN_ l yX0_init K_X0_init 257 1394 (G0_ B D ca) M a (a + 258) 0 := by
  obtain ⟨hk0, hk1, hk2, hk3, hk4, hk5, hk6, hk7, hk8, hk9⟩ := bk_k ha
  refine in_of (by decide +kernel) rfl rfl (by decide) (fun X hl C hcells hslots => ?_)
  subst hl
  have hcb : cE_c (G0_ B D ca) M a = .inr (0, (((((((((fresh_ 0).set 0 (.ref (B + (a + 1)))).set 1 (.ref (B + (a + 2)))).set 2 (.ref (B + (a + 3)))).set 3 (.ref (B + (a + 4)))).set 5 (.ref (B + (a + 5)))).set 8 (.ref (B + (a + 6)))).set 10 (.ref (B + (a + 7)))).set 12 (.ref (B + (a + 8)))).set 13 (.ref (B + (a + 9)))) := cE_o hk0 (by decide) (by rw [hz a (by omega) (by omega), fr_0]; rfl)
  refine I_aload_n (j := 0) C d_X0_init_0 rfl rfl ?_
  refine I_obj C iob_X0_3 ob_ok (by decide) (Nat.le_of_ble_eq_true rfl) d_X0_init_1 ?_
  refine I_aload_n (j := 0) C d_X0_init_4 rfl rfl ?_
  refine I_bipush (v := 10) C d_X0_init_5 rfl ?_
  refine I_newarr (aty := .int) (ty := .int) (t := 0) (N := 10) (v0 := 0) C rfl ia_int rfl (fun _ _ h => h) rfl (by decide) (by decide) (by omega) (by omega) d_X0_init_7 ?_
  refine I_putF (a := a) (b := (a + 1)) (ci := 0) (fs := fresh_ 0) (ty := tyX0 0) C (by decide) ck_0 ((up_ne (by omega)).trans <| rfl) ⟨by omega, by omega⟩ ifw_X0_9 rfl rfl (tyX0_ok 0 (by decide)) rfl rfl (by simp only [List.length_set, fr_len]; decide) d_X0_init_9 ?_
  refine I_aload_n (j := 0) C d_X0_init_12 rfl rfl ?_
  refine I_bipush (v := 8) C d_X0_init_13 rfl ?_
  refine I_newarr (aty := .int) (ty := .int) (t := 0) (N := 8) (v0 := 0) C rfl ia_int rfl (fun _ _ h => h) rfl (by decide) (by decide) (by omega) (by omega) d_X0_init_15 ?_
  refine I_putF (a := a) (b := (a + 2)) (ci := 0) (fs := (fresh_ 0).set 0 (.ref (B + (a + 1)))) (ty := tyX0 1) C (by decide) ck_0 ((up_ne (by omega)).trans <| up_eq) ⟨by omega, by omega⟩ ifw_X0_15 rfl rfl (tyX0_ok 1 (by decide)) rfl rfl (by simp only [List.length_set, fr_len]; decide) d_X0_init_17 ?_
  refine I_aload_n (j := 0) C d_X0_init_20 rfl rfl ?_
  refine I_bipush (v := 8) C d_X0_init_21 rfl ?_
  refine I_newarr (aty := .int) (ty := .int) (t := 0) (N := 8) (v0 := 0) C rfl ia_int rfl (fun _ _ h => h) rfl (by decide) (by decide) (by omega) (by omega) d_X0_init_23 ?_
  refine I_putF (a := a) (b := (a + 3)) (ci := 0) (fs := ((fresh_ 0).set 0 (.ref (B + (a + 1)))).set 1 (.ref (B + (a + 2)))) (ty := tyX0 2) C (by decide) ck_0 ((up_ne (by omega)).trans <| up_eq) ⟨by omega, by omega⟩ ifw_X0_18 rfl rfl (tyX0_ok 2 (by decide)) rfl rfl (by simp only [List.length_set, fr_len]; decide) d_X0_init_25 ?_
  refine I_aload_n (j := 0) C d_X0_init_28 rfl rfl ?_
  refine I_bipush (v := 40) C d_X0_init_29 rfl ?_
  refine I_newq (Cn := "TongueBook$Card") (t := 0) (N := 40) C (by decide) icl_X0_21 tc_0 (by decide) (by omega) (by omega) d_X0_init_31 ?_
  refine I_putF (a := a) (b := (a + 4)) (ci := 0) (fs := (((fresh_ 0).set 0 (.ref (B + (a + 1)))).set 1 (.ref (B + (a + 2)))).set 2 (.ref (B + (a + 3)))) (ty := tyX0 3) C (by decide) ck_0 ((up_ne (by omega)).trans <| up_eq) ⟨by omega, by omega⟩ ifw_X0_23 rfl rfl (tyX0_ok 3 (by decide)) rfl rfl (by simp only [List.length_set, fr_len]; decide) d_X0_init_34 ?_
  refine I_aload_n (j := 0) C d_X0_init_37 rfl rfl ?_
  refine I_bipush (v := 16) C d_X0_init_38 rfl ?_
  refine I_newq (Cn := "TongueBook$Note") (t := 1) (N := 16) C (by decide) icl_X0_27 tc_1 (by decide) (by omega) (by omega) d_X0_init_40 ?_
  refine I_putF (a := a) (b := (a + 5)) (ci := 0) (fs := ((((fresh_ 0).set 0 (.ref (B + (a + 1)))).set 1 (.ref (B + (a + 2)))).set 2 (.ref (B + (a + 3)))).set 3 (.ref (B + (a + 4)))) (ty := tyX0 5) C (by decide) ck_0 ((up_ne (by omega)).trans <| up_eq) ⟨by omega, by omega⟩ ifw_X0_29 rfl rfl (tyX0_ok 5 (by decide)) rfl rfl (by simp only [List.length_set, fr_len]; decide) d_X0_init_43 ?_
  refine I_aload_n (j := 0) C d_X0_init_46 rfl rfl ?_
  refine I_bipush (v := 8) C d_X0_init_47 rfl ?_
  refine I_newq (Cn := "TongueBook$Rule") (t := 2) (N := 8) C (by decide) icl_X0_33 tc_2 (by decide) (by omega) (by omega) d_X0_init_49 ?_
  refine I_putF (a := a) (b := (a + 6)) (ci := 0) (fs := (((((fresh_ 0).set 0 (.ref (B + (a + 1)))).set 1 (.ref (B + (a + 2)))).set 2 (.ref (B + (a + 3)))).set 3 (.ref (B + (a + 4)))).set 5 (.ref (B + (a + 5)))) (ty := tyX0 8) C (by decide) ck_0 ((up_ne (by omega)).trans <| up_eq) ⟨by omega, by omega⟩ ifw_X0_35 rfl rfl (tyX0_ok 8 (by decide)) rfl rfl (by simp only [List.length_set, fr_len]; decide) d_X0_init_52 ?_
  refine I_aload_n (j := 0) C d_X0_init_55 rfl rfl ?_
  refine I_bipush (v := 20) C d_X0_init_56 rfl ?_
  refine I_newq (Cn := "TongueBook$Saying") (t := 3) (N := 20) C (by decide) icl_X0_39 tc_3 (by decide) (by omega) (by omega) d_X0_init_58 ?_
  refine I_putF (a := a) (b := (a + 7)) (ci := 0) (fs := ((((((fresh_ 0).set 0 (.ref (B + (a + 1)))).set 1 (.ref (B + (a + 2)))).set 2 (.ref (B + (a + 3)))).set 3 (.ref (B + (a + 4)))).set 5 (.ref (B + (a + 5)))).set 8 (.ref (B + (a + 6)))) (ty := tyX0 10) C (by decide) ck_0 ((up_ne (by omega)).trans <| up_eq) ⟨by omega, by omega⟩ ifw_X0_41 rfl rfl (tyX0_ok 10 (by decide)) rfl rfl (by simp only [List.length_set, fr_len]; decide) d_X0_init_61 ?_
  refine I_aload_n (j := 0) C d_X0_init_64 rfl rfl ?_
  refine I_bipush (v := 10) C d_X0_init_65 rfl ?_
  refine I_newq (Cn := "TongueBook$Sounds") (t := 4) (N := 10) C (by decide) icl_X0_45 tc_4 (by decide) (by omega) (by omega) d_X0_init_67 ?_
  refine I_putF (a := a) (b := (a + 8)) (ci := 0) (fs := (((((((fresh_ 0).set 0 (.ref (B + (a + 1)))).set 1 (.ref (B + (a + 2)))).set 2 (.ref (B + (a + 3)))).set 3 (.ref (B + (a + 4)))).set 5 (.ref (B + (a + 5)))).set 8 (.ref (B + (a + 6)))).set 10 (.ref (B + (a + 7)))) (ty := tyX0 12) C (by decide) ck_0 ((up_ne (by omega)).trans <| up_eq) ⟨by omega, by omega⟩ ifw_X0_47 rfl rfl (tyX0_ok 12 (by decide)) rfl rfl (by simp only [List.length_set, fr_len]; decide) d_X0_init_70 ?_
  refine I_aload_n (j := 0) C d_X0_init_73 rfl rfl ?_
  refine I_bipush (v := 10) C d_X0_init_74 rfl ?_
  refine I_newarr (aty := .int) (ty := .int) (t := 0) (N := 10) (v0 := 0) C rfl ia_int rfl (fun _ _ h => h) rfl (by decide) (by decide) (by omega) (by omega) d_X0_init_76 ?_
  refine I_putF (a := a) (b := (a + 9)) (ci := 0) (fs := ((((((((fresh_ 0).set 0 (.ref (B + (a + 1)))).set 1 (.ref (B + (a + 2)))).set 2 (.ref (B + (a + 3)))).set 3 (.ref (B + (a + 4)))).set 5 (.ref (B + (a + 5)))).set 8 (.ref (B + (a + 6)))).set 10 (.ref (B + (a + 7)))).set 12 (.ref (B + (a + 8)))) (ty := tyX0 13) C (by decide) ck_0 ((up_ne (by omega)).trans <| up_eq) ⟨by omega, by omega⟩ ifw_X0_51 rfl rfl (tyX0_ok 13 (by decide)) rfl rfl (by simp only [List.length_set, fr_len]; decide) d_X0_init_78 ?_
  refine I_iconst C d_X0_init_81 ?_
  refine I_istore_n (lv' := [(1, iv_i 0), (0, .ref (B + a))]) C d_X0_init_82 rfl (by decide) rfl ?_
  refine I_ext (E' := (up_E (up_E (up_E (up_E (up_E (cE_c (G0_ B D ca) M) (a + 8) (ar_E ca 4 10 (pf_ (rO_c B SH0_ (a + 8)) 0))) (a + 7) (ar_E ca 3 20 (pf_ (rO_c B SH0_ (a + 7)) 0))) (a + 6) (ar_E ca 2 8 (pf_ (rO_c B SH0_ (a + 6)) 0))) (a + 5) (ar_E ca 1 16 (pf_ (rO_c B SH0_ (a + 5)) 0))) (a + 4) (ar_E ca 0 40 (pf_ (rO_c B SH0_ (a + 4)) 0)))) (fun x h1 h2 => ?_) ?_
  · skip
    by_cases hx0 : x = a
    · rw [hx0, up_eq, up_ne (show a ≠ a + 4 by omega), up_ne (show a ≠ a + 5 by omega), up_ne (show a ≠ a + 6 by omega), up_ne (show a ≠ a + 7 by omega), up_ne (show a ≠ a + 8 by omega)]; exact hcb.symm
    rw [up_ne hx0]
    by_cases hx9 : x = (a + 9)
    · rw [hx9, up_eq, up_ne (show a + 9 ≠ a + 4 by omega), up_ne (show a + 9 ≠ a + 5 by omega), up_ne (show a + 9 ≠ a + 6 by omega), up_ne (show a + 9 ≠ a + 7 by omega), up_ne (show a + 9 ≠ a + 8 by omega)]; exact (cE_i hk9 (hz (a + 9) (by omega) (by omega))).symm
    rw [up_ne hx9]
    rw [up_ne hx0]
    by_cases hx8 : x = (a + 8)
    · rw [hx8, up_eq, up_ne (show a + 8 ≠ a + 4 by omega), up_ne (show a + 8 ≠ a + 5 by omega), up_ne (show a + 8 ≠ a + 6 by omega), up_ne (show a + 8 ≠ a + 7 by omega), up_eq, pf_0]; rfl
    rw [up_ne hx8]
    rw [up_ne hx0]
    by_cases hx7 : x = (a + 7)
    · rw [hx7, up_eq, up_ne (show a + 7 ≠ a + 4 by omega), up_ne (show a + 7 ≠ a + 5 by omega), up_ne (show a + 7 ≠ a + 6 by omega), up_eq, pf_0]; rfl
    rw [up_ne hx7]
    rw [up_ne hx0]
    by_cases hx6 : x = (a + 6)
    · rw [hx6, up_eq, up_ne (show a + 6 ≠ a + 4 by omega), up_ne (show a + 6 ≠ a + 5 by omega), up_eq, pf_0]; rfl
    rw [up_ne hx6]
    rw [up_ne hx0]
    by_cases hx5 : x = (a + 5)
    · rw [hx5, up_eq, up_ne (show a + 5 ≠ a + 4 by omega), up_eq, pf_0]; rfl
    rw [up_ne hx5]
    rw [up_ne hx0]
    by_cases hx4 : x = (a + 4)
    · rw [hx4, up_eq, up_eq, pf_0]; rfl
    rw [up_ne hx4]
    rw [up_ne hx0]
    by_cases hx3 : x = (a + 3)
    · rw [hx3, up_eq, up_ne (show a + 3 ≠ a + 4 by omega), up_ne (show a + 3 ≠ a + 5 by omega), up_ne (show a + 3 ≠ a + 6 by omega), up_ne (show a + 3 ≠ a + 7 by omega), up_ne (show a + 3 ≠ a + 8 by omega)]; exact (cE_i hk3 (hz (a + 3) (by omega) (by omega))).symm
    rw [up_ne hx3]
    rw [up_ne hx0]
    by_cases hx2 : x = (a + 2)
    · rw [hx2, up_eq, up_ne (show a + 2 ≠ a + 4 by omega), up_ne (show a + 2 ≠ a + 5 by omega), up_ne (show a + 2 ≠ a + 6 by omega), up_ne (show a + 2 ≠ a + 7 by omega), up_ne (show a + 2 ≠ a + 8 by omega)]; exact (cE_i hk2 (hz (a + 2) (by omega) (by omega))).symm
    rw [up_ne hx2]
    rw [up_ne hx0]
    by_cases hx1 : x = (a + 1)
    · rw [hx1, up_eq, up_ne (show a + 1 ≠ a + 4 by omega), up_ne (show a + 1 ≠ a + 5 by omega), up_ne (show a + 1 ≠ a + 6 by omega), up_ne (show a + 1 ≠ a + 7 by omega), up_ne (show a + 1 ≠ a + 8 by omega)]; exact (cE_i hk1 (hz (a + 1) (by omega) (by omega))).symm
    rw [up_ne hx1]
    exfalso; omega
  refine I_at (cc' := 9 + 0 * (1 + 2)) (oo' := 130 + 0 * (7 + 10)) (n' := a + 10 + 3 * 0) (by omega) (by omega) (by omega) ?_
  refine I_fill (a := a) (r := a + 4) (t := 0) (N := 40) (ci := 1) (co := 0) (w := 3) (mc := 2) (ms := 10) (nf := 7) (h := 83) (ex := 108) (n0 := a + 10) (cc := 9) (oo := 130) (k := 3) (fs := (((((((((fresh_ 0).set 0 (.ref (B + (a + 1)))).set 1 (.ref (B + (a + 2)))).set 2 (.ref (B + (a + 3)))).set 3 (.ref (B + (a + 4)))).set 5 (.ref (B + (a + 5)))).set 8 (.ref (B + (a + 6)))).set 10 (.ref (B + (a + 7)))).set 12 (.ref (B + (a + 8)))).set 13 (.ref (B + (a + 9)))) (PT := (up_E (up_E (up_E (up_E (cE_c (G0_ B D ca) M) (a + 8) (ar_E ca 4 10 (pf_ (rO_c B SH0_ (a + 8)) 0))) (a + 7) (ar_E ca 3 20 (pf_ (rO_c B SH0_ (a + 7)) 0))) (a + 6) (ar_E ca 2 8 (pf_ (rO_c B SH0_ (a + 6)) 0))) (a + 5) (ar_E ca 1 16 (pf_ (rO_c B SH0_ (a + 5)) 0)))) C ⟨by omega, by omega⟩ (by decide) ck_0 ((up_ne (by omega)).trans <| (up_ne (by omega)).trans <| (up_ne (by omega)).trans <| (up_ne (by omega)).trans <| hcb) (fun x hx => (up_ne (by omega)).trans <| (up_ne (by omega)).trans <| (up_ne (by omega)).trans <| (up_ne (by omega)).trans <| rfl) ifw_X0_23 rfl tc_0 rfl (by decide) ck_1 rfl icl_X0_21 ii_1.1 ii_1.2 yn_X1 im2_X0_54 (by decide) (fun i hi => in_X1 (a := a + 10 + 3 * i) (bk_c ha i hi).1 (bk_c ha i hi).2.1 (bk_c ha i hi).2.2 (fun x h1 h2 => hz x (by omega) (by omega))) (fun i hi => (bk_c ha i hi).1) (fun i hi => rO_s (by rw [hk4]; show (if i < 40 then _ else _) = _; rw [if_pos hi]; try omega)) (by decide) (by decide) rfl (by omega) (by omega) (by decide) d_X0_init_83 d_X0_init_84 d_X0_init_86 d_X0_init_89 d_X0_init_90 d_X0_init_93 d_X0_init_94 d_X0_init_97 d_X0_init_98 d_X0_init_101 d_X0_init_102 d_X0_init_105 rfl rfl ?_ 40 0 rfl
  refine I_at (cc' := 129) (oo' := 810) (n' := a + 130) rfl rfl (by omega) ?_
  refine I_ext (E' := (up_E (up_E (up_E (up_E (cE_c (G0_ B D ca) M) (a + 8) (ar_E ca 4 10 (pf_ (rO_c B SH0_ (a + 8)) 0))) (a + 7) (ar_E ca 3 20 (pf_ (rO_c B SH0_ (a + 7)) 0))) (a + 6) (ar_E ca 2 8 (pf_ (rO_c B SH0_ (a + 6)) 0))) (a + 5) (ar_E ca 1 16 (pf_ (rO_c B SH0_ (a + 5)) 0)))) (fun x h1 h2 => ?_) ?_
  · skip
    by_cases hx : x = a + 4
    · rw [hx, up_eq, up_ne (show a + 4 ≠ a + 5 by omega), up_ne (show a + 4 ≠ a + 6 by omega), up_ne (show a + 4 ≠ a + 7 by omega), up_ne (show a + 4 ≠ a + 8 by omega), ar_full (M := M) (D := D) hk4 (by decide) (fun k hk => by show (if k < 40 then _ else _) = 0; rw [if_neg (by omega)])]
    · rw [up_ne hx]
  refine I_iconst C d_X0_init_108 ?_
  refine I_istore_n (lv' := [(1, iv_i 0), (0, .ref (B + a))]) C d_X0_init_109 rfl (by decide) rfl ?_
  refine I_at (cc' := 129 + 0 * (1 + 4)) (oo' := 810 + 0 * (4 + 20)) (n' := a + 130 + 5 * 0) (by omega) (by omega) (by omega) ?_
  refine I_fill (a := a) (r := a + 5) (t := 1) (N := 16) (ci := 5) (co := 0) (w := 5) (mc := 4) (ms := 20) (nf := 4) (h := 110) (ex := 135) (n0 := a + 130) (cc := 129) (oo := 810) (k := 5) (fs := (((((((((fresh_ 0).set 0 (.ref (B + (a + 1)))).set 1 (.ref (B + (a + 2)))).set 2 (.ref (B + (a + 3)))).set 3 (.ref (B + (a + 4)))).set 5 (.ref (B + (a + 5)))).set 8 (.ref (B + (a + 6)))).set 10 (.ref (B + (a + 7)))).set 12 (.ref (B + (a + 8)))).set 13 (.ref (B + (a + 9)))) (PT := (up_E (up_E (up_E (cE_c (G0_ B D ca) M) (a + 8) (ar_E ca 4 10 (pf_ (rO_c B SH0_ (a + 8)) 0))) (a + 7) (ar_E ca 3 20 (pf_ (rO_c B SH0_ (a + 7)) 0))) (a + 6) (ar_E ca 2 8 (pf_ (rO_c B SH0_ (a + 6)) 0)))) C ⟨by omega, by omega⟩ (by decide) ck_0 ((up_ne (by omega)).trans <| (up_ne (by omega)).trans <| (up_ne (by omega)).trans <| hcb) (fun x hx => (up_ne (by omega)).trans <| (up_ne (by omega)).trans <| (up_ne (by omega)).trans <| rfl) ifw_X0_29 rfl tc_1 rfl (by decide) ck_5 rfl icl_X0_27 ii_5.1 ii_5.2 yn_X5 im2_X0_55 (by decide) (fun i hi => in_X5 (a := a + 130 + 5 * i) (bk_n ha i hi).1 (bk_n ha i hi).2.1 (bk_n ha i hi).2.2.1 (bk_n ha i hi).2.2.2.1 (bk_n ha i hi).2.2.2.2 (fun x h1 h2 => hz x (by omega) (by omega))) (fun i hi => (bk_n ha i hi).1) (fun i hi => rO_s (by rw [hk5]; show (if i < 16 then _ else _) = _; rw [if_pos hi]; try omega)) (by decide) (by decide) rfl (by omega) (by omega) (by decide) d_X0_init_110 d_X0_init_111 d_X0_init_113 d_X0_init_116 d_X0_init_117 d_X0_init_120 d_X0_init_121 d_X0_init_124 d_X0_init_125 d_X0_init_128 d_X0_init_129 d_X0_init_132 rfl rfl ?_ 16 0 rfl
  refine I_at (cc' := 209) (oo' := 1194) (n' := a + 210) rfl rfl (by omega) ?_
  refine I_ext (E' := (up_E (up_E (up_E (cE_c (G0_ B D ca) M) (a + 8) (ar_E ca 4 10 (pf_ (rO_c B SH0_ (a + 8)) 0))) (a + 7) (ar_E ca 3 20 (pf_ (rO_c B SH0_ (a + 7)) 0))) (a + 6) (ar_E ca 2 8 (pf_ (rO_c B SH0_ (a + 6)) 0)))) (fun x h1 h2 => ?_) ?_
  · skip
    by_cases hx : x = a + 5
    · rw [hx, up_eq, up_ne (show a + 5 ≠ a + 6 by omega), up_ne (show a + 5 ≠ a + 7 by omega), up_ne (show a + 5 ≠ a + 8 by omega), ar_full (M := M) (D := D) hk5 (by decide) (fun k hk => by show (if k < 16 then _ else _) = 0; rw [if_neg (by omega)])]
    · rw [up_ne hx]
  refine I_iconst C d_X0_init_135 ?_
  refine I_istore_n (lv' := [(1, iv_i 0), (0, .ref (B + a))]) C d_X0_init_136 rfl (by decide) rfl ?_
  refine I_at (cc' := 209 + 0 * (1 + 0)) (oo' := 1194 + 0 * (5 + 0)) (n' := a + 210 + 1 * 0) (by omega) (by omega) (by omega) ?_
  refine I_fill (a := a) (r := a + 6) (t := 2) (N := 8) (ci := 7) (co := 0) (w := 1) (mc := 0) (ms := 0) (nf := 5) (h := 137) (ex := 162) (n0 := a + 210) (cc := 209) (oo := 1194) (k := 8) (fs := (((((((((fresh_ 0).set 0 (.ref (B + (a + 1)))).set 1 (.ref (B + (a + 2)))).set 2 (.ref (B + (a + 3)))).set 3 (.ref (B + (a + 4)))).set 5 (.ref (B + (a + 5)))).set 8 (.ref (B + (a + 6)))).set 10 (.ref (B + (a + 7)))).set 12 (.ref (B + (a + 8)))).set 13 (.ref (B + (a + 9)))) (PT := (up_E (up_E (cE_c (G0_ B D ca) M) (a + 8) (ar_E ca 4 10 (pf_ (rO_c B SH0_ (a + 8)) 0))) (a + 7) (ar_E ca 3 20 (pf_ (rO_c B SH0_ (a + 7)) 0)))) C ⟨by omega, by omega⟩ (by decide) ck_0 ((up_ne (by omega)).trans <| (up_ne (by omega)).trans <| hcb) (fun x hx => (up_ne (by omega)).trans <| (up_ne (by omega)).trans <| rfl) ifw_X0_35 rfl tc_2 rfl (by decide) ck_7 rfl icl_X0_33 ii_7.1 ii_7.2 yn_X7 im2_X0_56 (by decide) (fun i hi => in_X7 (a := a + 210 + 1 * i) (bk_r ha i hi) (fun x h1 h2 => hz x (by omega) (by omega))) (fun i hi => (bk_r ha i hi)) (fun i hi => rO_s (by rw [hk6]; show (if i < 8 then _ else _) = _; rw [if_pos hi]; try omega)) (by decide) (by decide) rfl (by omega) (by omega) (by decide) d_X0_init_137 d_X0_init_138 d_X0_init_140 d_X0_init_143 d_X0_init_144 d_X0_init_147 d_X0_init_148 d_X0_init_151 d_X0_init_152 d_X0_init_155 d_X0_init_156 d_X0_init_159 rfl rfl ?_ 8 0 rfl
  refine I_at (cc' := 217) (oo' := 1234) (n' := a + 218) rfl rfl (by omega) ?_
  refine I_ext (E' := (up_E (up_E (cE_c (G0_ B D ca) M) (a + 8) (ar_E ca 4 10 (pf_ (rO_c B SH0_ (a + 8)) 0))) (a + 7) (ar_E ca 3 20 (pf_ (rO_c B SH0_ (a + 7)) 0)))) (fun x h1 h2 => ?_) ?_
  · skip
    by_cases hx : x = a + 6
    · rw [hx, up_eq, up_ne (show a + 6 ≠ a + 7 by omega), up_ne (show a + 6 ≠ a + 8 by omega), ar_full (M := M) (D := D) hk6 (by decide) (fun k hk => by show (if k < 8 then _ else _) = 0; rw [if_neg (by omega)])]
    · rw [up_ne hx]
  refine I_iconst C d_X0_init_162 ?_
  refine I_istore_n (lv' := [(1, iv_i 0), (0, .ref (B + a))]) C d_X0_init_163 rfl (by decide) rfl ?_
  refine I_at (cc' := 217 + 0 * (1 + 0)) (oo' := 1234 + 0 * (3 + 0)) (n' := a + 218 + 1 * 0) (by omega) (by omega) (by omega) ?_
  refine I_fill (a := a) (r := a + 7) (t := 3) (N := 20) (ci := 8) (co := 0) (w := 1) (mc := 0) (ms := 0) (nf := 3) (h := 164) (ex := 189) (n0 := a + 218) (cc := 217) (oo := 1234) (k := 10) (fs := (((((((((fresh_ 0).set 0 (.ref (B + (a + 1)))).set 1 (.ref (B + (a + 2)))).set 2 (.ref (B + (a + 3)))).set 3 (.ref (B + (a + 4)))).set 5 (.ref (B + (a + 5)))).set 8 (.ref (B + (a + 6)))).set 10 (.ref (B + (a + 7)))).set 12 (.ref (B + (a + 8)))).set 13 (.ref (B + (a + 9)))) (PT := (up_E (cE_c (G0_ B D ca) M) (a + 8) (ar_E ca 4 10 (pf_ (rO_c B SH0_ (a + 8)) 0)))) C ⟨by omega, by omega⟩ (by decide) ck_0 ((up_ne (by omega)).trans <| hcb) (fun x hx => (up_ne (by omega)).trans <| rfl) ifw_X0_41 rfl tc_3 rfl (by decide) ck_8 rfl icl_X0_39 ii_8.1 ii_8.2 yn_X8 im2_X0_57 (by decide) (fun i hi => in_X8 (a := a + 218 + 1 * i) (bk_s ha i hi) (fun x h1 h2 => hz x (by omega) (by omega))) (fun i hi => (bk_s ha i hi)) (fun i hi => rO_s (by rw [hk7]; show (if i < 20 then _ else _) = _; rw [if_pos hi]; try omega)) (by decide) (by decide) rfl (by omega) (by omega) (by decide) d_X0_init_164 d_X0_init_165 d_X0_init_167 d_X0_init_170 d_X0_init_171 d_X0_init_174 d_X0_init_175 d_X0_init_178 d_X0_init_179 d_X0_init_182 d_X0_init_183 d_X0_init_186 rfl rfl ?_ 20 0 rfl
  refine I_at (cc' := 237) (oo' := 1294) (n' := a + 238) rfl rfl (by omega) ?_
  refine I_ext (E' := (up_E (cE_c (G0_ B D ca) M) (a + 8) (ar_E ca 4 10 (pf_ (rO_c B SH0_ (a + 8)) 0)))) (fun x h1 h2 => ?_) ?_
  · skip
    by_cases hx : x = a + 7
    · rw [hx, up_eq, up_ne (show a + 7 ≠ a + 8 by omega), ar_full (M := M) (D := D) hk7 (by decide) (fun k hk => by show (if k < 20 then _ else _) = 0; rw [if_neg (by omega)])]
    · rw [up_ne hx]
  refine I_iconst C d_X0_init_189 ?_
  refine I_istore_n (lv' := [(1, iv_i 0), (0, .ref (B + a))]) C d_X0_init_190 rfl (by decide) rfl ?_
  refine I_at (cc' := 237 + 0 * (1 + 1)) (oo' := 1294 + 0 * (2 + 8)) (n' := a + 238 + 2 * 0) (by omega) (by omega) (by omega) ?_
  refine I_fill (a := a) (r := a + 8) (t := 4) (N := 10) (ci := 10) (co := 0) (w := 2) (mc := 1) (ms := 8) (nf := 2) (h := 191) (ex := 216) (n0 := a + 238) (cc := 237) (oo := 1294) (k := 12) (fs := (((((((((fresh_ 0).set 0 (.ref (B + (a + 1)))).set 1 (.ref (B + (a + 2)))).set 2 (.ref (B + (a + 3)))).set 3 (.ref (B + (a + 4)))).set 5 (.ref (B + (a + 5)))).set 8 (.ref (B + (a + 6)))).set 10 (.ref (B + (a + 7)))).set 12 (.ref (B + (a + 8)))).set 13 (.ref (B + (a + 9)))) (PT := (cE_c (G0_ B D ca) M)) C ⟨by omega, by omega⟩ (by decide) ck_0 (hcb) (fun x hx => rfl) ifw_X0_47 rfl tc_4 rfl (by decide) ck_10 rfl icl_X0_45 ii_10.1 ii_10.2 yn_X10 im2_X0_58 (by decide) (fun i hi => in_X10 (a := a + 238 + 2 * i) (bk_w ha i hi).1 (bk_w ha i hi).2 (fun x h1 h2 => hz x (by omega) (by omega))) (fun i hi => (bk_w ha i hi).1) (fun i hi => rO_s (by rw [hk8]; show (if i < 10 then _ else _) = _; rw [if_pos hi]; try omega)) (by decide) (by decide) rfl (by omega) (by omega) (by decide) d_X0_init_191 d_X0_init_192 d_X0_init_194 d_X0_init_197 d_X0_init_198 d_X0_init_201 d_X0_init_202 d_X0_init_205 d_X0_init_206 d_X0_init_209 d_X0_init_210 d_X0_init_213 rfl rfl ?_ 10 0 rfl
  refine I_at (cc' := 257) (oo' := 1394) (n' := a + 258) rfl rfl (by omega) ?_
  refine I_ext (E' := (cE_c (G0_ B D ca) M)) (fun x h1 h2 => ?_) ?_
  · skip
    by_cases hx : x = a + 8
    · rw [hx, up_eq, ar_full (M := M) (D := D) hk8 (by decide) (fun k hk => by show (if k < 10 then _ else _) = 0; rw [if_neg (by omega)])]
    · rw [up_ne hx]
  exact I_lv [1] rfl (I_vret C d_X0_init_216 rfl rfl (fun x h1 h2 => rfl))
