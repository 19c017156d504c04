/-! the start of the law: tables, new objects, then the loop -/
theorem ao_Card : Cond.arrayOver (.object "TongueBook$Card") ∈ lw_tbl := qt_1 (List.mem_of_getElem? (i := 38) (by decide +kernel))
theorem ao_Note : Cond.arrayOver (.object "TongueBook$Note") ∈ lw_tbl := qt_1 (List.mem_of_getElem? (i := 40) (by decide +kernel))
theorem ao_Rule : Cond.arrayOver (.object "TongueBook$Rule") ∈ lw_tbl := qt_1 (List.mem_of_getElem? (i := 42) (by decide +kernel))
theorem ao_Saying : Cond.arrayOver (.object "TongueBook$Saying") ∈ lw_tbl := qt_1 (List.mem_of_getElem? (i := 44) (by decide +kernel))
theorem ao_Sounds : Cond.arrayOver (.object "TongueBook$Sounds") ∈ lw_tbl := qt_1 (List.mem_of_getElem? (i := 46) (by decide +kernel))
theorem ao_Shelf : Cond.arrayOver (.object "TongueBook$Shelf") ∈ lw_tbl := qt_2 (List.mem_of_getElem? (i := 20) (by decide +kernel))
theorem ia_lon : Cond.arrayClass .long ∈ TB_t := tb_in (qt_7 (List.mem_of_getElem? (i := 115) (by decide +kernel))) rfl
theorem icl_L_8 : Cond.classLink RL 8 (vN_ 11) ∈ TB_t := tb_in (qt_1 (List.mem_of_getElem? (i := 23) (by decide +kernel))) rfl
theorem icl_L_18 : Cond.classLink RL 18 (vN_ 12) ∈ TB_t := tb_in (qt_5 (List.mem_of_getElem? (i := 110) (by decide +kernel))) rfl
theorem im1_L_17 : L1_ RL 17 yX11_init := tb_in (qt_1 (List.mem_of_getElem? (i := 25) (by decide +kernel))) rfl
theorem im1_L_20 : L1_ RL 20 yX12_init := tb_in (qt_5 (List.mem_of_getElem? (i := 112) (by decide +kernel))) rfl
theorem ck_all {ci : Nat} (h : ci < 13) : CK_ ci := by
  match ci, h with
  | 0, _ => exact ck_0
  | 1, _ => exact ck_1
  | 2, _ => exact ck_2
  | 3, _ => exact ck_3
  | 4, _ => exact ck_4
  | 5, _ => exact ck_5
  | 6, _ => exact ck_6
  | 7, _ => exact ck_7
  | 8, _ => exact ck_8
  | 9, _ => exact ck_9
  | 10, _ => exact ck_10
  | 11, _ => exact ck_11
  | 12, _ => exact ck_12
  | k + 13, h => exact absurd h (by omega)
theorem ii_all {ci : Nat} (h : ci < 13) : Cond.instantiable (vN_ ci) (nf_c ci) ∈ TB_t := by
  match ci, h with
  | 0, _ => exact ii_0.1
  | 1, _ => exact ii_1.1
  | 2, _ => exact ii_2.1
  | 3, _ => exact ii_3.1
  | 4, _ => exact ii_4.1
  | 5, _ => exact ii_5.1
  | 6, _ => exact ii_6.1
  | 7, _ => exact ii_7.1
  | 8, _ => exact ii_8.1
  | 9, _ => exact ii_9.1
  | 10, _ => exact ii_10.1
  | 11, _ => exact ii_11.1
  | 12, _ => exact ii_12.1
  | k + 13, h => exact absurd h (by omega)
theorem ar_prim {s : State} {args : Array Value} {ty : FieldType} (h : (Cond.arrayClass ty).before args s = true) : ∃ c k comp, s.vm.findClass ("[" ++ ty.toString) = some c ∧ s.vm.classes[c]? = some k ∧ k.kind = .array comp ty := Cond.arrayClass_spec h
theorem kn_start {s : State} {args : Array Value} (hts : ∀ w ∈ lw_tbl, w.before args s = true) (B : Nat) : ∃ (D : va_G) (ca : Nat → ClassId), Ki_ (G0_ B D ca) s := by
  have hTB : ∀ w ∈ TB_t, w.before args s = true := fun w hw => hts w (List.mem_filter.mp hw).1
  have h1 : ∀ ci, ∃ q : ClassId × (Nat → Nat), ci < 13 → u_Kn s (vN_ ci) (vT_ ci) (nf_c ci) q.1 q.2 := by
    intro ci
    by_cases h : ci < 13
    · obtain ⟨c, iS, hk⟩ := u_known (C := vN_ ci) (T := vT_ ci) (N := nf_c ci) (n := nf_c ci) hTB (ck_all h).1 (hTB _ (ii_all h))
      exact ⟨(c, iS), fun _ => hk⟩
    · exact ⟨(0, fun _ => 0), fun q => absurd q h⟩
  obtain ⟨f, hf⟩ := Classical.skolem.mp h1
  have ob : ∀ Cn : String, Cond.arrayOver (.object Cn) ∈ lw_tbl → ∃ c : ClassId, ArrOfT s c (.object Cn) ∧ va_RA s c (.object Cn) := by
    intro Cn hw
    obtain ⟨comp, c, k, g1, g2, g3, g4, g5⟩ := Cond.arrayOver_spec (hts _ hw)
    exact ⟨c, fun n z => ⟨fun k h => (by cases h), k, g3, comp, g4⟩, k, comp, g3, g4, g1, g5⟩
  obtain ⟨c0, k0, p0, i1, i2, i3⟩ := ar_prim (hTB _ ia_int)
  obtain ⟨c1, k1, p1, b1, b2, b3⟩ := ar_prim (hTB _ ia_boo)
  obtain ⟨c8, k8, p8, l1, l2, l3⟩ := ar_prim (hTB _ ia_lon)
  obtain ⟨c2, q2, r2⟩ := ob _ ao_Card
  obtain ⟨c3, q3, r3⟩ := ob _ ao_Note
  obtain ⟨c4, q4, r4⟩ := ob _ ao_Rule
  obtain ⟨c5, q5, r5⟩ := ob _ ao_Saying
  obtain ⟨c6, q6, r6⟩ := ob _ ao_Sounds
  obtain ⟨c7, q7, r7⟩ := ob _ ao_Shelf
  refine ⟨(fun ci => (f ci).1, fun ci => (f ci).2), fun k => match k with | 0 => c0 | 1 => c1 | 2 => c2 | 3 => c3 | 4 => c4 | 5 => c5 | 6 => c6 | 7 => c7 | _ => c8, ⟨⟨fun ci q hq => ?_, fun k q hq => ?_⟩, fun w hw => ?_⟩, fun C hC => ?_⟩
  · have hl : ci < 13 := (List.getElem?_eq_some_iff.mp hq).1
    have e := vw_get hl
    rw [hq] at e
    cases e
    exact hf ci hl
  · have hl : k < 9 := (List.getElem?_eq_some_iff.mp hq).1
    match k, hl, hq with
    | 0, _, hq => cases hq; exact ⟨fun n z => ⟨fun k h => (by cases h), k0, i2, p0, i3⟩, i1⟩
    | 1, _, hq => cases hq; exact ⟨fun n z => ⟨fun k h => (by cases h), k1, b2, p1, b3⟩, b1⟩
    | 2, _, hq => cases hq; exact ⟨q2, r2⟩
    | 3, _, hq => cases hq; exact ⟨q3, r3⟩
    | 4, _, hq => cases hq; exact ⟨q4, r4⟩
    | 5, _, hq => cases hq; exact ⟨q5, r5⟩
    | 6, _, hq => cases hq; exact ⟨q6, r6⟩
    | 7, _, hq => cases hq; exact ⟨q7, r7⟩
    | 8, _, hq => cases hq; exact ⟨fun n z => ⟨fun k h => (by cases h), k8, l2, p8, l3⟩, l1⟩
    | k + 9, hl, _ => exact absurd hl (by omega)
  · obtain ⟨x1, x2, x3, x4, rfl⟩ := nw_cases hw
    exact va_Nw.of rfl (hts _ (List.mem_filter.mp hw).1)
  · have ao : ∀ Cn : String, Cond.arrayOver (.object Cn) ∈ lw_tbl → va_AO Cn s := fun Cn hw => va_AO.of (by
      have h9 := hts _ hw
      exact h9)
    simp only [ao_L, List.mem_cons, List.not_mem_nil, or_false] at hC
    rcases hC with rfl | rfl | rfl | rfl | rfl | rfl
    · exact ao _ ao_Card
    · exact ao _ ao_Note
    · exact ao _ ao_Rule
    · exact ao _ ao_Saying
    · exact ao _ ao_Sounds
    · exact ao _ ao_Shelf
def Cw_ (K : KT_k) (X : XT_x) (G : GT_g) : Prop :=
  (x_p X).tables.exec = Jvm.exec ∧ (x_c X).code = K.1 ∧ (x_c X).maxLocals = K.2.1 ∧ (x_s X).vm.findClass K.2.2.1 = some (x_m X).cls ∧ (∀ w ∈ TB_t, w.before (x_a X) (x_s X) = true) ∧ Ki_ G (x_s X) ∧ K.2.2.2 ≤ (x_R X).frames ∧ 40 * K.2.2.2 ≤ (x_R X).locals
section IW
variable {K K' : KT_k} {X : XT_x} {G : GT_g} {Q : State → Prop} {cc oo lo n pc : Nat} {E : Nat → va_E} {lv : List (Nat × Value)} {rest : List Value} {M : Mem_m}
theorem I_newW {ci idx nf : Nat} (hnf : nf_c ci = nf) (C : Cw_ K X G) (hci : ci < 13) (hck : CK_ ci) (hcl : Cond.classLink K.2.2.1 idx (vN_ ci) ∈ TB_t) (hin : Cond.instantiable (vN_ ci) (nf_c ci) ∈ TB_t) (hini : Cond.initialized (vN_ ci) ∈ TB_t) (hc : cc + 1 ≤ (x_R X).cells) (hs : oo + nf ≤ (x_R X).slots) (hd : decode K.1 pc = .ok (.new idx, 3))
    (k : I_ K X G Q (cc + 1) (oo + nf) lo (n + 1) (up_E E n (.inr (ci, fresh_ ci))) (pc + 3) lv (.ref (G.1 + n) :: rest)) : I_ K X G Q cc oo lo n E pc lv rest := by
  subst hnf
  intro H locs ls hP hS hl
  obtain ⟨c1, c2, c3, c4, c5, c6, c7, c8⟩ := C
  have hKn := c6.1.1.1 ci _ (vw_get hci)
  obtain ⟨k1, ⟨ty, k2⟩, k3⟩ := hck
  refine W.newcK c1 c2 c4 (c5 _ hcl) (c5 _ hin) (c5 _ hini) rfl hd hc hs hKn.2.1 hP.1 fun H1 kC hkC e1 z1 o1 => ?_
  refine k H1 locs ls (Is_push hP (by omega) o1 ?_) (S_push hS (by rw [hP.1]; omega) (fun q hq => o1 q (by rw [← hP.1]; exact hq))) hl
  refine ⟨_, vw_get hci, (u_born ty c5 k1 hKn hkC e1 k2).to fun j hj => ?_⟩
  show defaultValue (ty j) = vp_V (fresh_ ci) j
  unfold vp_V fresh_
  rw [List.getD_eq_getElem?_getD, List.getElem?_map, List.getElem?_range hj]
  simp only [Option.map_some, Option.getD_some, k2 j hj]
theorem I_callW {y : MethodName} {b n' ci mc ms idx : Nat} (C : Cw_ K X G) (hy : Yn_ y K') (hw : L1_ K.2.2.1 idx y) (hlev : K'.2.2.2 + 1 ≤ K.2.2.2) (hM : IN_ (x_l X) y K' mc ms G M b n' ci) (hlo : lo ≤ b) (hn : n = b + 1) (hE : E b = .inr (ci, fresh_ ci)) (hc : cc + mc ≤ (x_R X).cells) (hs : oo + ms ≤ (x_R X).slots) (hcat : (rest.map fun v => v.category).sum ≤ 8) (hd : decode K.1 pc = .ok (.invokespecial idx, 3))
    (kk : I_ K X G Q (cc + mc) (oo + ms) lo n' (cl_E (cE_c G M) E b) (pc + 3) lv rest) : I_ K X G Q cc oo lo n E pc lv (.ref (G.1 + b) :: rest) := by
  intro H locs ls hP hS hl
  obtain ⟨y1, y2, y3, y4, y5, y6, y7⟩ := hy
  obtain ⟨c1, c2, c3, c4, c5, c6, c7, c8⟩ := C
  have hpre : PreS (x_s X) H (va_Pc [.ref (G.1 + b)] (pI_c G b ci)) [.ref (G.1 + b)] := by
    refine ⟨pI_blind, fun U hU hW => ⟨rfl, ⟨by rw [hU, ← hn]; exact hP.1, fun x h1 h2 => ?_⟩, Ki_warm c6 hW⟩⟩
    have hx : x = b := by omega
    subst hx
    rw [hU]
    have h := hP.2 x hlo (by omega)
    rw [hE] at h
    exact h
  refine i_fin hlo hP hS hl (va_runI (As := []) (rest := rest) ⟨c1, c2, c3, c4, c5⟩ hM ⟨⟨rfl, rfl, Nat.le_trans hlev c7, ?_, pay_in c5 (tb_good (i_code ⟨y1, y2, y3, y4, y5, y6, y7⟩)), List.mem_cons_self, c5 _ y1, c5 _ y2, y3, fun sig hsg => ?_, c5 _ hw⟩, y6, c5 _ y7⟩ hpre rfl rfl hl.1 rfl (lv_room hcat) hd ⟨hc, hs⟩) hn kk
  · show 8 + (K'.2.1 + 11) + 40 * K'.2.2.2 ≤ (x_R X).locals; omega
  · rw [hsg] at y4; exact (Option.some.inj y4).symm
theorem I_newlon {N : Nat} (C : Cw_ K X G) (hN : (N : Int) < 1000000) (hc : cc + 1 ≤ (x_R X).cells) (hs : oo + N ≤ (x_R X).slots) (hd : decode K.1 pc = .ok (.newarray .long, 2))
    (k : I_ K X G Q (cc + 1) (oo + N) lo (n + 1) (up_E E n (.inl (G.2.2.1 8, N, .inr (.inl (fun _ => 0))))) (pc + 2) lv (.ref (G.1 + n) :: rest)) : I_ K X G Q cc oo lo n E pc lv (iv_i N :: rest) := by
  intro H locs ls hP hS hl
  obtain ⟨c1, c2, c3, c4, c5, c6, c7, c8⟩ := C
  have hok : ok_i (N : Int) := by unfold ok_i; omega
  refine va_newaK (atype := .long) c1 c2 (c5 _ ia_lon) rfl hd rfl (N := N) (fun q => ?_) (by rw [clamp_I hok (by omega)]; omega) (by show N * 8 ≤ _; omega) hc hs hP.1 fun H1 cA e1 z1 o1 hAr hNm => ?_
  · rw [show (0 : Int32) = Int32.ofInt 0 from rfl, lt_I hok ok_0] at q; omega
  have hcA : cA = G.2.2.1 8 := Option.some.inj (hNm.symm.trans (c6.1.1.2 8 _ rfl).2)
  subst hcA
  refine k H1 locs ls (Is_push hP (by omega) o1 ?_) (S_push hS (by rw [hP.1]; omega) (fun q hq => o1 q (by rw [← hP.1]; exact hq))) hl
  show H1[G.1 + n]? = some (vp_cell _ _)
  rw [vp_cell_l, e1]; rfl
end IW
/-- the memory when all is made: the orders' three rows, else nothing -/
def M0_ (z : Mem_m) : Mem_m := fun a => if 528 ≤ a ∧ a < 531 then z (a - 528) else fun _ => 0
theorem M0_z {z : Mem_m} {a : Nat} (h : a < 528 ∨ 531 ≤ a) : M0_ z a = fun _ => 0 := by unfold M0_; rw [if_neg (by omega)]
set_option maxHeartbeats 4000000 in
set_option maxRecDepth 100000 in
theorem start_of {p : Program} {e : Env} {s : State} {m : MethodId} {below : List Frame} {meth : Method} {c : Code} (l : Launch) {b L : Nat} {xs : Nat → Int32} {R : Mem_m → Prop} {z : Mem_m} (hL : L ≤ 3072) (C0 : lw_At p s m meth c b L xs) (hs : Sim_ R) (hz : f_X6_init S6_ Z_m 0 = some z) (hok : ok_m (M0_ z)) (hR : R (M0_ z))
    (hel : ∀ (D : va_G) (ca : Nat → ClassId), Kn_ (G0_ s.heap.size D ca) s → ∀ (j : Nat) (M : Mem_m) (cc oo : Nat), 6 * j + 6 ≤ L → cc ≤ 600000 → oo ≤ 7000000 → R M → (∀ M2, R M2 → V_ K_L (Xc_ p l e s m b below meth c (cc + 1) (oo + 6)) (G0_ s.heap.size D ca) (lw_Z below #[Value.ref b] s) M2 1726 (LV_ s.heap.size b j) []) → V_ K_L (Xc_ p l e s m b below meth c cc oo) (G0_ s.heap.size D ca) (lw_Z below #[Value.ref b] s) M 1536 (LV_ s.heap.size b j) []) :
    W p l e room_1 s m #[Value.ref b] below meth c s.heap [] 0 0 (lw_Z below #[Value.ref b] s) (entryFrame m ([Value.ref b] : List Value).toArray 8) := by
  obtain ⟨hx, hb, hr, hml, hown, hts, hXs, hbl, hlocks, hgv⟩ := id C0
  have hTB : ∀ w ∈ TB_t, w.before #[Value.ref b] s = true := fun w hw => hts w (List.mem_filter.mp hw).1
  obtain ⟨D, ca, hKi⟩ := kn_start hts s.heap.size
  have C : Cw_ K_L (Xc_ p l e s m b below meth c 0 0) (G0_ s.heap.size D ca) := ⟨hx, hb, hml, hown, hTB, hKi, Nat.le_of_ble_eq_true rfl, Nat.le_of_ble_eq_true rfl⟩
  have hcl : (x_R (Xc_ p l e s m b below meth c 0 0)).cells = 601024 := rfl
  have hsl : (x_R (Xc_ p l e s m b below meth c 0 0)).slots = 7293034 := rfl
  rw [lg_entry_eq]
  have key : I_ K_L (Xc_ p l e s m b below meth c 0 0) (G0_ s.heap.size D ca) (lw_Z below #[Value.ref b] s) 0 0 0 0 (fun _ => .inr (11, fresh_ 11)) 0 [(0, .ref b)] [] := by
    refine I_newW (ci := 11) (nf := 9) rfl C (by decide) ck_11 icl_L_8 ii_11.1 ii_11.2 (by omega) (by omega) d_L_0 ?_
    intro H locs ls hP hS hl
    refine lv_dup C.1 C.2.1 d_L_3 rfl ?_
    refine I_callW (X := Xc_ p l e s m b below meth c 0 0) (K := K_L) (lv := [(0, .ref b)]) (rest := [.ref (s.heap.size + 0)]) (b := 0) (n' := 592) (G := G0_ s.heap.size D ca) (M := M0_ z) (E := up_E (fun _ => .inr (11, fresh_ 11)) 0 (.inr (11, fresh_ 11))) C yn_X11 im1_L_17 (by decide) (in_X11 (z := z) (fun x h1 h2 => M0_z h2) hz (fun k hk => by unfold M0_; rw [if_pos (by omega)]; congr 1; omega)) (Nat.le_refl _) rfl up_eq (by omega) (by omega) (Nat.le_of_ble_eq_true rfl) d_L_4 ?_ H locs ls hP hS hl
    intro H locs ls hP hS hl
    refine lv_astore_n (lv' := [(1, .ref (s.heap.size + 0)), (0, .ref b)]) C.1 C.2.1 d_L_7 rfl hl (by decide) rfl (fun ls hl => ?_)
    refine I_newW (X := Xc_ p l e s m b below meth c 0 0) (K := K_L) (lv := [(1, .ref (s.heap.size + 0)), (0, .ref b)]) (rest := []) (ci := 12) (nf := 33) rfl C (by decide) ck_12 icl_L_18 ii_12.1 ii_12.2 (by omega) (by omega) d_L_8 ?_ H locs ls hP hS hl
    intro H locs ls hP hS hl
    refine lv_dup C.1 C.2.1 d_L_11 rfl ?_
    refine I_callW (X := Xc_ p l e s m b below meth c 0 0) (K := K_L) (lv := [(1, .ref (s.heap.size + 0)), (0, .ref b)]) (rest := [.ref (s.heap.size + 592)]) (b := 592) (n' := 611) (G := G0_ s.heap.size D ca) (M := M0_ z) C yn_X12 im1_L_20 (by decide) (in_X12 (a := 592) (by decide) (by decide) (by decide) (by decide) (by decide) (by decide) (by decide) (by decide) (by decide) (by decide) (by decide) (by decide) (by decide) (by decide) (by decide) (by decide) (by decide) (by decide) (by decide) (fun x h1 h2 => M0_z (by omega))) (Nat.zero_le _) rfl up_eq (by omega) (by omega) (Nat.le_of_ble_eq_true rfl) d_L_12 ?_ H locs ls hP hS hl
    intro H locs ls hP hS hl
    refine lv_astore_n (lv' := [(2, .ref (s.heap.size + 592)), (1, .ref (s.heap.size + 0)), (0, .ref b)]) C.1 C.2.1 d_L_15 rfl hl (by decide) rfl (fun ls hl => ?_)
    refine lv_iconst (v := Int32.ofInt ((1 : Nat) : Int)) C.1 C.2.1 d_L_16 rfl ?_
    refine I_newlon (X := Xc_ p l e s m b below meth c 0 0) (K := K_L) (lv := [(2, .ref (s.heap.size + 592)), (1, .ref (s.heap.size + 0)), (0, .ref b)]) (rest := []) (N := 1) C (by decide) (by omega) (by omega) d_L_17 ?_ H locs ls hP hS hl
    intro H locs ls hP hS hl
    refine lv_astore_n (lv' := [(3, .ref (s.heap.size + 611)), (2, .ref (s.heap.size + 592)), (1, .ref (s.heap.size + 0)), (0, .ref b)]) C.1 C.2.1 d_L_19 rfl hl (by decide) rfl (fun ls hl => ?_)
    refine lv_iconst (v := Int32.ofInt 0) C.1 C.2.1 d_L_20 rfl ?_
    refine lv_istore (lv' := LV_ s.heap.size b 0) C.1 C.2.1 d_L_21 hl (by decide) rfl (fun ls hl => ?_)
    have hV := law_loop (l := l) (e := e) (below := below) hL C0 hKi.1 hs (hel D ca hKi.1) 601 0 (M0_ z) (0 + 1 + 591 + 1 + 18 + 1) (0 + 9 + 6096 + 33 + 3154 + 1) (by omega) (by omega) (by omega) (by omega) hR
    refine hV hok H locs ls (fun k q hq => ?_) hS hl
    obtain ⟨hk, rfl⟩ := ws_in hq
    have h9 := hP.2 k (Nat.zero_le _) hk
    by_cases h1 : k = 611
    · subst h1
      rw [up_eq] at h9
      rw [cE_lon (G := G0_ s.heap.size D ca) rfl, M0_z (Or.inr (by omega))]
      exact h9
    · rw [up_ne h1] at h9
      by_cases h2 : 592 ≤ k
      · rw [cl_in h2] at h9; exact h9
      · rw [cl_ne h2, up_ne (by omega), cl_in (Nat.zero_le _)] at h9; exact h9
  exact key s.heap [] _ ⟨rfl, fun a h1 h2 => absurd h2 (Nat.not_lt_zero _)⟩ va_S.rf (lv_entry [.ref b] (n := 8) (Nat.le_of_ble_eq_true rfl))
