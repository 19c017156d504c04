/-! the law's own element: what is thrown is caught -/
section VLN
variable {K : KT_k} {X : XT_x} {G : GT_g} {Q : State → Prop} {M : Mem_m} {pc : Nat} {lv : List (Nat × Value)} {rest : List Value}
theorem V_last {a N : Nat} {i v : Int} (C : Cx_ K X G) (hd : decode K.1 pc = .ok (.lastore, 1)) (h1 : a < G.2.2.2.1) (h2 : G.2.2.2.2.1 a = (28, N)) (hi : ok_i i) (h3 : 0 ≤ i) (h4 : i < N) (hv : ok_i v) (kk : V_ K X G Q (st_m M a i.toNat v) (pc + 1) lv rest) : V_ K X G Q M pc lv (jv_i v :: iv_i i :: .ref (G.1 + a) :: rest) := by
  intro hM H locs ls hP hS hl
  have he := ws_get (G := G) (M := M) h1
  rw [cE_lon (by rw [h2])] at he
  refine va_last C.1 C.2.1 C.2.2.2.2.2.1.1 hP (S_fr C) hS a 8 he rfl (in_I hi h3 (by rw [h2]; exact h4)) hd fun H1 locs1 hP1 _ hS1 => ?_
  have he2 : cE_c G (st_m M a i.toNat v) a = .inl (G.2.2.1 8, (G.2.2.2.2.1 a).2, .inr (.inl (vp_updL (fun j => Int64.ofInt (M a j)) (Int32.ofInt i).toNatClampNeg (Int64.ofInt v)))) := by
    rw [cE_lon (by rw [h2]), clamp_I hi h3]
    congr 5
    funext j
    rw [st_s]
    unfold up_r vp_updL
    split <;> rfl
  rw [ws_set h1 (fun b hb => st_o hb) he2] at hP1
  exact kk (ok_st hM hv) H1 locs1 ls hP1 hS1 hl
theorem V_lald {a N : Nat} {i : Int} (C : Cx_ K X G) (hd : decode K.1 pc = .ok (.laload, 1)) (h1 : a < G.2.2.2.1) (h2 : G.2.2.2.2.1 a = (28, N)) (hi : ok_i i) (h3 : 0 ≤ i) (h4 : i < N) (kk : V_ K X G Q M (pc + 1) lv (jv_i (M a i.toNat) :: rest)) : V_ K X G Q M pc lv (iv_i i :: .ref (G.1 + a) :: rest) := by
  intro hM H locs ls hP hS hl
  have he := ws_get (G := G) (M := M) h1
  rw [cE_lon (by rw [h2])] at he
  have hh := kk hM H locs ls hP hS hl
  rw [← clamp_I hi h3] at hh
  exact va_lald C.1 C.2.1 C.2.2.2.2.2.1.1 hP a 8 he rfl (in_I hi h3 (by rw [h2]; exact h4)) hd hh
end VLN
/-- what the law's row of one long holds behind a call of element -/
def mE_ (M : Mem_m) (k r : Int) : Mem_m := if k = 0 then st_m M 611 0 r else M
def QI_e (G : GT_g) (M : Mem_m) (k r : Int) : Array Value → State → Outcome → State → Prop := va_Qi (S := Unit) (fun v _ => v = Int32.ofInt k) (fun _ t => va_P G.2.1 vwCl (ws_w G (mE_ M k r)) t.heap) (fr_w G)
def Rl_ (X : XT_x) (G : GT_g) : Prop := (x_h X).sig.returnType = some .int ∧ (x_h X).locks = false ∧ x_A X = fr_w G ∧ x_n X = 1 ∧ x_o X = 6
theorem V_iret6 {X : XT_x} {G : GT_g} {M : Mem_m} {k r : Int} {pc : Nat} {lv : List (Nat × Value)} (C : Cx_ K_le X G) (hR : Rl_ X G) (hd : decode K_le.1 pc = .ok (.ireturn, 1)) : V_ K_le X G (MQ (x_b X) (QI_e G M k r) (x_a X) (x_s X) 1 6 (fr_w G)) (mE_ M k r) pc lv [iv_i k] := by
  intro hM H locs ls hP hS hl
  obtain ⟨r1, r2, r3, r4, r5⟩ := hR
  rw [r4, r5]
  rw [r3] at hS
  exact W.iret C.1 C.2.1 r1 (fun t ht hW => ⟨⟨_, (), rfl, rfl, (by show va_P _ _ _ t.heap; rw [ht]; exact hP)⟩, hS.F ht⟩) hS.2.2 hd r2
theorem Pe_pre {K : KT_k} {X : XT_x} {G : GT_g} {M : Mem_m} {av : List Value} {H : Heap} {locs : List Loc} (C : Cx_ K X G) (hM : ok_m M) (hP : va_P G.2.1 vwCl (ws_w G M) H) (hE : Ex_ G (x_s X)) (hS : va_S (x_A X) (x_s X).heap H locs) (hA : ∀ q, x_A X q → G.1 ≤ q) (hlo : G.1 ≤ (x_s X).heap.size) : PreS (x_s X) H (va_Pc av (Pe_ G M)) av :=
  ⟨Pe_blind, fun U hU hW => ⟨rfl, ⟨hM, by rw [hU]; exact hP, Kn_warm C.2.2.2.2.2.1 hW⟩, Ex_warm hE hW hU hS hA hlo⟩⟩
set_option maxHeartbeats 4000000 in
set_option maxRecDepth 100000 in
theorem t_le {p : Program} {l : Launch} {e : Env} {R : Room} {s : State} {m : MethodId} {args : Array Value} {below : List Frame} {meth : Method} {c : Code} {B : Nat} {D : va_G} {ca : Nat → ClassId} {M : Mem_m} {k r : Int}
    (C0 : Cx_ K_le (p, l, e, R, s, m, args, below, meth, c, (0, 0), fr_w (G0_ B D ca)) (G0_ B D ca)) (C1 : Cx_ K_le (p, l, e, R, s, m, args, below, meth, c, (1, 6), fr_w (G0_ B D ca)) (G0_ B D ca)) (hret : meth.sig.returnType = some .int) (hlk : meth.locks = false) (htab : c.exceptionTable.toList = tableOf [(0, 9, 12, 13), (0, 9, 16, 15)]) (hE : Ex_ (G0_ B D ca) s) (hst : l.stackTraces = false) (hlo : B ≤ s.heap.size)
    (hc1 : 1 ≤ R.cells) (hs6 : 6 ≤ R.slots) (x1 x2 : Int) (o1 : ok_i x1) (o2 : ok_i x2) (hr : ok_i r) (h : el_f SH0_ M 0 x1 x2 = some (k, r)) :
    V_ K_le (p, l, e, R, s, m, args, below, meth, c, (0, 0), fr_w (G0_ B D ca)) (G0_ B D ca) (MQ below (QI_e (G0_ B D ca) M k r) args s 1 6 (fr_w (G0_ B D ca))) M 0 [(0, .ref (B + 0)), (1, iv_i x1), (2, iv_i x2), (3, .ref (B + 611))] [] := by
  have hRl : Rl_ (p, l, e, R, s, m, args, below, meth, c, (1, 6), fr_w (G0_ B D ca)) (G0_ B D ca) := ⟨hret, hlk, rfl, rfl, rfl⟩
  refine V_aload_n (j := 3) C0 d_L_element_0 rfl rfl ?_
  refine V_iconst C0 d_L_element_1 ?_
  refine V_aload_n (j := 0) C0 d_L_element_2 rfl rfl ?_
  refine V_iload_n (j := 1) C0 d_L_element_3 rfl rfl ?_
  refine V_iload_n (j := 2) C0 d_L_element_4 rfl rfl ?_
  intro hM H locs ls hP hS hl
  have hre : ∃ cell : Cell, H[B + 0]? = some cell ∧ cell.vm.isStatics = false ∧ s.vm.findClass RX11 = some cell.cls := c_recv (ci := 11) C0 hP (by decide) (show 0 < 612 by decide) rfl
  refine vx_calll (vx_runV (As := [iv_i x1, iv_i x2]) (rest := [iv_i 0, .ref (B + 611)]) (b := B + 0) (C := RX11) (y := yX11_element) (bytes := cX11_element) (maxL := 3) (ret := some .long) (n := 2) (c_fix C0) (ct_el (G := G0_ B D ca) hst 0 x1 x2 o1 o2 h) ⟨⟨rfl, rfl, ?_, ?_, c_pay C0 (fun w hw => ?_), List.mem_cons_self, C0.2.2.2.2.1 _ cde_X11, C0.2.2.2.2.1 _ (yk_X11_isIn.2.1), by decide, fun sig hs => ?_, C0.2.2.2.2.1 _ l1_L_7⟩, C0.2.2.2.2.1 _ yi_el.1, C0.2.2.2.2.1 _ yi_el.2⟩ ⟨Pe_blind, hre, (Pe_pre C0 hM hP hE hS (fun q hq => hq.1) hlo).2⟩ rfl rfl hl.1 rfl (lv_room (Nat.le_of_ble_eq_true rfl)) d_L_element_5 ⟨hc1, hs6⟩) hS (fun q _ hq => hq) (fun q hq => hq) (fun q _ hq => hq) ?_ ?_
  · exact Nat.le_trans (by decide) C0.2.2.2.2.2.2.1.1
  · exact Nat.le_trans (by decide) C0.2.2.2.2.2.2.1.2.1
  · rcases List.mem_cons.mp hw with rfl | hw
    · exact cde_X11
    · exact hw
  · have y4 : (parseMethodDescriptor yX11_element.desc).map (fun d => d.parameters.length) = some 2 := by decide +kernel
    rw [hs] at y4; exact (Option.some.inj y4).symm
  · intro E ce q9 u t H1 locs1 ht ha hu hB hz hk hS1 hce hvm hcl
    obtain ⟨hk9, hP1⟩ := hB
    rw [ht] at hP1
    rcases hk9 with ⟨rfl, rfl⟩ | ⟨rfl, rfl⟩
    · refine vx_catch (E := "java/lang/IllegalArgumentException") (name := "java/lang/IllegalArgumentException") C0.2.2.2.1 [] ⟨0, 9, 12, 13⟩ [⟨0, 9, 16, 15⟩] htab (fun z hz => absurd hz List.not_mem_nil) (by decide) (by decide) (C0.2.2.2.2.1 _ ecl_RL_13) (va_Nw.use rfl (hE.2.2.2.2.1 _ (List.mem_filter.mpr ⟨eca_IllegalArgumentException, rfl⟩))) hce hvm hcl ?_
      have hw : V_ K_le (p, l, e, R, s, m, args, below, meth, c, (1, 6), fr_w (G0_ B D ca)) (G0_ B D ca) (MQ below (QI_e (G0_ B D ca) M 1 r) args s 1 6 (fr_w (G0_ B D ca))) M 12 [(0, .ref (B + 0)), (1, iv_i x1), (2, iv_i x2), (3, .ref (B + 611))] [.ref q9] := by
        refine V_astore (lv' := [(4, .ref q9), (0, .ref (B + 0)), (1, iv_i x1), (2, iv_i x2), (3, .ref (B + 611))]) C1 d_L_element_12 (by decide) rfl ?_
        refine V_iconst C1 d_L_element_14 ?_
        exact V_iret6 (k := 1) C1 hRl d_L_element_15
      exact hw hM H1 locs1 ls hP1 hS1 hl
    · refine vx_catch (E := "java/lang/IllegalStateException") (name := "java/lang/IllegalStateException") C0.2.2.2.1 [⟨0, 9, 12, 13⟩] ⟨0, 9, 16, 15⟩ [] htab (fun z hz => ?_) (by decide) (by decide) (C0.2.2.2.2.1 _ ecl_RL_15) (va_Nw.use rfl (hE.2.2.2.2.1 _ (List.mem_filter.mpr ⟨eca_IllegalStateException, rfl⟩))) hce hvm hcl ?_
      · rcases List.mem_singleton.mp hz with rfl
        exact Or.inr ⟨by decide, _, C0.2.2.2.2.1 _ ecl_RL_13, hE.2.2.2.1⟩
      have hw : V_ K_le (p, l, e, R, s, m, args, below, meth, c, (1, 6), fr_w (G0_ B D ca)) (G0_ B D ca) (MQ below (QI_e (G0_ B D ca) M 2 r) args s 1 6 (fr_w (G0_ B D ca))) M 16 [(0, .ref (B + 0)), (1, iv_i x1), (2, iv_i x2), (3, .ref (B + 611))] [.ref q9] := by
        refine V_astore (lv' := [(4, .ref q9), (0, .ref (B + 0)), (1, iv_i x1), (2, iv_i x2), (3, .ref (B + 611))]) C1 d_L_element_16 (by decide) rfl ?_
        refine V_iconst C1 d_L_element_18 ?_
        exact V_iret6 (k := 2) C1 hRl d_L_element_19
      exact hw hM H1 locs1 ls hP1 hS1 hl
  · intro r1 u t H1 locs1 ht ha hw hB hz hk hS1
    obtain ⟨rfl, rfl⟩ := hw
    have hP1 : va_P D vwCl (ws_w (G0_ B D ca) M) H1 := by rw [← ht]; exact hB
    have hw : V_ K_le (p, l, e, R, s, m, args, below, meth, c, (1, 6), fr_w (G0_ B D ca)) (G0_ B D ca) (MQ below (QI_e (G0_ B D ca) M 0 r) args s 1 6 (fr_w (G0_ B D ca))) M 8 [(0, .ref (B + 0)), (1, iv_i x1), (2, iv_i x2), (3, .ref (B + 611))] [jv_i r, iv_i 0, .ref (B + 611)] := by
      refine V_last (a := 611) (N := 1) C1 d_L_element_8 (show 611 < 612 by decide) rfl ok_0 (by decide) (by decide) hr ?_
      refine V_goto (tgt := 20) C1 d_L_element_9 (by decide) ?_
      refine V_iconst C1 d_L_element_20 ?_
      exact V_iret6 (k := 0) C1 hRl d_L_element_21
    exact hw hM H1 locs1 ls hP1 hS1 hl
