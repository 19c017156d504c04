/-! case 36 of the law: element -/
set_option maxHeartbeats 4000000 in
theorem ct_le {l : Launch} {B : Nat} {D : va_G} {ca : Nat → ClassId} {M : Mem_m} {k r : Int} (hst : l.stackTraces = false) (x1 x2 : Int) (o1 : ok_i x1) (o2 : ok_i x2) (hr : ok_i r) (h : el_f SH0_ M 0 x1 x2 = some (k, r)) :
    Met l yL_element (.codeWith yL_element cL_element 5 (some .int) [(0, 9, 12, 13), (0, 9, 16, 15)] :: TB_t) (rm_n 13 1 6) (va_Pc [.ref (B + 0), iv_i x1, iv_i x2, .ref (B + 611)] (fun U => Pe_ (G0_ B D ca) M U ∧ B ≤ U.heap.size)) (QI_e (G0_ B D ca) M k r) 1 6 (fr_w (G0_ B D ca)) := by
  have hx : vx_Met l yL_element (.codeWith yL_element cL_element 5 (some .int) [(0, 9, 12, 13), (0, 9, 16, 15)] :: TB_t) (rm_n 13 1 6) (va_Pc [.ref (B + 0), iv_i x1, iv_i x2, .ref (B + 611)] (fun U => Pe_ (G0_ B D ca) M U ∧ B ≤ U.heap.size)) (QI_e (G0_ B D ca) M k r) (fun _ _ _ => False) 1 6 (fr_w (G0_ B D ca)) := by
    refine vx_ofWH (cc := cL_element) (maxL := 5) (ret := some .int) (by decide) rfl ?_
    intro p e s m args below meth c s₁ B9 hml hv
    obtain ⟨rfl, ⟨⟨hM, hP, hK⟩, hE⟩, hlo⟩ := hv
    have hts := atoms_spec (ws := .codeWith yL_element cL_element 5 (some .int) [(0, 9, 12, 13), (0, 9, 16, 15)] :: TB_t) B9.pre
    have htab := vx_table (x := yL_element) B9 (hts _ List.mem_cons_self)
    have hown : s.vm.findClass RL = some m.cls := findClass_of_methodNamed B9.named
    rw [lg_entry_eq]
    have mkC : ∀ cc oo, cc ≤ 1 → oo ≤ 6 → Cx_ K_le (p, l, e, (headSpec (.codeWith yL_element cL_element 5 (some .int) [(0, 9, 12, 13), (0, 9, 16, 15)] :: TB_t) (rm_n 13 1 6)).room, s, m, #[.ref (B + 0), iv_i x1, iv_i x2, .ref (B + 611)], below, meth, c, (cc, oo), fr_w (G0_ B D ca)) (G0_ B D ca) := fun cc oo h1 h2 =>
      ⟨B9.exec, B9.bytes, hml, hown, fun w hw => hts w (List.mem_cons_of_mem _ hw), hK, ⟨Nat.le_refl _, Nat.le_refl _, h1, h2⟩, fun _ h => h⟩
    have hh := t_le (l := l) (e := e) (below := below) (M := M) (k := k) (r := r) (mkC 0 0 (by decide) (by decide)) (mkC 1 6 (by decide) (by decide)) B9.returns B9.notSynchronized htab hE hst hlo (Nat.le_refl _) (Nat.le_refl _) x1 x2 o1 o2 hr h
    exact vx_ret (hh hM s.heap [] _ hP va_S.rf (lv_entry [.ref (B + 0), iv_i x1, iv_i x2, .ref (B + 611)] (n := 5) (Nat.le_of_ble_eq_true rfl)))
  intro p e ha hc hk s m args below hf happ hP hK
  obtain ⟨k9, o, h1, h2, h3, hQ⟩ := hx p e ha hc hk s m args below hf happ hP hK
  refine ⟨k9, o, h1, h2, h3, ?_⟩
  rcases hQ with hQ | ⟨q, -, E, ce, L, hF, -⟩
  · exact hQ
  · exact hF.elim
section V36
variable {K K' : KT_k} {X : XT_x} {G : GT_g} {Q : State → Prop} {M : Mem_m} {pc : Nat} {lv : List (Nat × Value)} {rest st : List Value} {α : Type} {z : α} {y : MethodName} {ret : Option FieldType} {idx n : Nat} {av : List Value} {b L j : Nat} {xs : Nat → Int32}
theorem V_callVwl {o : Option (Mem_m × Int)} {F : Mem_m × Int → Option α} {a ci : Nat} (hyi : Yi_ y) (hci : ci < 13) (hcn : vN_ ci = y.cls) (C : Cx_ K X G) (hy : Yk_ y K' ret n) (hw : L1_ K.2.2.1 idx y) (hlev : K'.2.2.2 + 1 ≤ K.2.2.2) (hd : decode K.1 pc = .ok (.invokevirtual idx, 3)) (hM : ∀ v, o = some v → ML_ (x_l X) y K' ret G M (Value.ref (G.1 + a) :: av) v.1 v.2) (hn : av.length = n) (hst : st = av.reverse ++ .ref (G.1 + a) :: rest) (hcat : (rest.map fun v => v.category).sum ≤ 8) (h : (vc_ G.2.2.2 a ci o).bind F = some z)
    (kk : ∀ v : Mem_m × Int, F v = some z → V_ K X G Q v.1 (pc + 3) lv (jv_i v.2 :: rest)) : V_ K X G Q M pc lv st := by
  unfold vc_ at h
  split at h
  case isFalse => cases h
  rename_i hg
  obtain ⟨h1, h2⟩ := hg
  cases ho : o with
  | none => rw [ho] at h; cases h
  | some v =>
    rw [ho] at h
    intro hM0 H locs ls hP hS hl
    exact c_finl C hl hS (va_runV (As := av) (rest := rest) (C := y.cls) (c_fix C) (hM v ho) ⟨c_B C hy hw hlev, C.2.2.2.2.1 _ hyi.1, C.2.2.2.2.1 _ hyi.2⟩ ⟨Wd_blind, by rw [← hcn]; exact c_recv C hP hci h1 h2, (c_pre (av := .ref (G.1 + a) :: av) C hM0 hP).2⟩ rfl hn hl.1 hst (lv_room hcat) hd (c_cells C)) (kk v h)
theorem V_arg2 {k p0 p4 : Nat} {kI : Int} (C : Cx_ K X G) (hX : Lx_ X b L xs) (hk : 6 * j + k < L) (hkI : kI = (k : Int)) (hk5 : k ≤ 5) (h0 : lv[p0]? = some (0, .ref b)) (h4 : lv[p4]? = some (4, iv_i ((6 * j : Nat) : Int))) (d0 : decode K.1 pc = .ok (.aload_n 0, 1)) (d1 : decode K.1 (pc + 1) = .ok (.iload 4, 2)) (d3 : decode K.1 (pc + 3) = .ok (.iconst kI, 1)) (d4 : decode K.1 (pc + 4) = .ok (.iadd, 1)) (d5 : decode K.1 (pc + 5) = .ok (.iaload, 1))
    (kk : V_ K X G Q M (pc + 6) lv (iv_i (sx_ xs j k) :: rest)) : V_ K X G Q M pc lv rest := by
  subst hkI
  have h3 : (L : Int) ≤ 3072 := hX.2.2.2
  refine V_aload_n (j := p0) C d0 rfl h0 ?_
  refine V_iload (j := p4) C d1 h4 ?_
  refine V_iconst C d3 ?_
  refine V_iadd C d4 ?_
  have e : wr_i (((6 * j : Nat) : Int) + (k : Int)) = ((6 * j + k : Nat) : Int) := by
    rw [wr_id (by unfold ok_i; omega)]; omega
  rw [e]
  exact V_sald C hX hk d5 kk
end V36
