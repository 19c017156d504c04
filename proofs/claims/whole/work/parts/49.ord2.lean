theorem iob_X6_3 : Cond.methodLink RX6 3 Lib.objectInit ∈ TB_t := tb_in (qt_2 (List.mem_of_getElem? (i := 95) (by decide +kernel))) rfl
theorem ifw_X6_9 : FW_ RX6 9 6 0 := ⟨by decide, by decide, tb_in (qt_2 (List.mem_of_getElem? (i := 110) (by decide +kernel))) rfl⟩
theorem ifw_X6_15 : FW_ RX6 15 6 1 := ⟨by decide, by decide, tb_in (qt_2 (List.mem_of_getElem? (i := 111) (by decide +kernel))) rfl⟩
theorem in_of2 {l : Launch} {y : MethodName} {K : KT_k} {mc ms : Nat} {G : GT_g} {M : Mem_m} {a n' ci : Nat} (hy : plainName y.cls = true) (ho : K.2.2.1 = y.cls) (hnm : y.name = "<init>") (hsz : 1 ≤ K.2.1)
    (b : ∀ X : XT_x, x_l X = l → Cy_ K X G → (x_R X).cells = mc → (x_R X).slots = ms → (x_s X).heap.size = G.1 + (a + 1) → I_ K X G (Qn_ X G M a n' mc ms) 0 0 a (a + 1) (fun _ => .inr (ci, fresh_ ci)) 0 [(0, .ref (G.1 + a))] []) : IN_ l y K mc ms G M a n' ci := by
  refine Met.ofW (cc := K.1) (maxL := K.2.1) (ret := none) hy rfl ?_
  intro p e s m args below meth c s₁ B hml hv
  obtain ⟨rfl, hI, hK⟩ := hv
  have hts := atoms_spec (ws := .code y K.1 K.2.1 none :: TB_t) B.pre
  have hown : s.vm.findClass y.cls = some m.cls := findClass_of_methodNamed B.named
  have hin : meth.name = "<init>" := (name_of_methodNamed B.named B.method).1.trans hnm
  rw [lg_entry_eq]
  have h := b (p, l, e, (headSpec (.code y K.1 K.2.1 none :: TB_t) (rm_n K.2.2.2 mc ms)).room, s, m, #[.ref (G.1 + a)], below, meth, c, (0, 0), fun _ => True) rfl
    ⟨B.exec, B.bytes, hml, by rw [ho]; exact hown, fun w hw => hts w (List.mem_cons_of_mem _ hw), hK, Nat.le_refl _, Nat.le_refl _, hin, B.returns, B.notSynchronized⟩ rfl rfl hI.1
  exact h s.heap [] _ hI va_S.rf (lv_entry [.ref (G.1 + a)] hsz)
def Z_m : Mem_m := fun _ _ => 0
/-- the three cells of the orders alone -/
def S6_ : SH_s := (3, fun k => match k with | 0 => (6, 0) | 1 => (20, 16) | _ => (20, 4), fun a k => match a with | 0 => (match k with | 0 => 3 | 1 => 4 | _ => 0) | _ => 0)
theorem c6_0 {B a : Nat} {D : va_G} {ca : Nat → ClassId} {M : Mem_m} {N : Mem_m} (hk0 : (kd0_ a).1 = 6) (hk1 : kd0_ (a + 1) = (20, 16)) (hk2 : kd0_ (a + 2) = (20, 4)) (hN : ∀ k, k < 3 → N (a + k) = M k) : ∀ k, k < 3 → cE_c (B + a, D, ca, S6_) M k = cE_c (G0_ B D ca) N (a + k) := by
  intro k hk
  rcases (show k = 0 ∨ k = 1 ∨ k = 2 by omega) with rfl | rfl | rfl
  · have h0 : N a = M 0 := hN 0 (by omega)
    rw [Nat.add_zero, cE_o (B := B) (D := D) (ca := ca) (M := N) (fs := [.ref (B + (a + 1)), .ref (B + (a + 2)), iv_i (M 0 2), iv_i (M 0 3)]) hk0 (by decide) (by rw [h0]; rfl)]
    rw [cE_obj (G := (B + a, D, ca, S6_)) (ci := 6) rfl (by decide)]
    show Sum.inr (6, [Value.ref (B + a + 1), Value.ref (B + a + 2), iv_i (M 0 2), iv_i (M 0 3)]) = _
    rw [Nat.add_assoc, Nat.add_assoc]
  · rw [cE_int (G := G0_ B D ca) (by show (kd0_ (a + 1)).1 = 20; rw [hk1]), cE_int (G := (B + a, D, ca, S6_)) rfl, hN 1 (by omega)]
    show _ = Sum.inl (ca 0, (kd0_ (a + 1)).2, _)
    rw [hk1]; rfl
  · rw [cE_int (G := G0_ B D ca) (by show (kd0_ (a + 2)).1 = 20; rw [hk2]), cE_int (G := (B + a, D, ca, S6_)) rfl, hN 2 (by omega)]
    show _ = Sum.inl (ca 0, (kd0_ (a + 2)).2, _)
    rw [hk2]; rfl
set_option maxHeartbeats 4000000 in
set_option maxRecDepth 100000 in
theorem in_X6 {l : Launch} {B : Nat} {D : va_G} {ca : Nat → ClassId} {M z : Mem_m} {a : Nat} (hk0 : (kd0_ a).1 = 6) (hk1 : kd0_ (a + 1) = (20, 16)) (hk2 : kd0_ (a + 2) = (20, 4)) (hf : f_X6_init S6_ Z_m 0 = some z) (hM : ∀ k, k < 3 → M (a + k) = z k) : IN_ l yX6_init K_X6_init 2 20 (G0_ B D ca) M a (a + 3) 6 := by
  refine in_of2 (by decide +kernel) rfl rfl (by decide) (fun X hl C hcells hslots hsz => ?_)
  subst hl
  refine I_aload_n (j := 0) C d_X6_init_0 rfl rfl ?_
  refine I_obj C iob_X6_3 ob_ok (by decide) (Nat.le_of_ble_eq_true rfl) d_X6_init_1 ?_
  refine I_aload_n (j := 0) C d_X6_init_4 rfl rfl ?_
  refine I_bipush (v := 16) C d_X6_init_5 rfl ?_
  refine I_newarr (aty := .int) (ty := .int) (t := 0) (N := 16) (v0 := 0) C rfl ia_int rfl (fun _ _ h => h) rfl (by decide) (by decide) (by omega) (by omega) d_X6_init_7 ?_
  refine I_putF (a := a) (b := (a + 1)) (ci := 6) (fs := fresh_ 6) (ty := tyX6 0) C (by decide) ck_6 ((up_ne (by omega)).trans <| rfl) ⟨by omega, by omega⟩ ifw_X6_9 rfl rfl (tyX6_ok 0 (by decide)) rfl rfl (by simp only [List.length_set, fr_len]; decide) d_X6_init_9 ?_
  refine I_aload_n (j := 0) C d_X6_init_12 rfl rfl ?_
  refine I_iconst C d_X6_init_13 ?_
  refine I_newarr (aty := .int) (ty := .int) (t := 0) (N := 4) (v0 := 0) C rfl ia_int rfl (fun _ _ h => h) rfl (by decide) (by decide) (by omega) (by omega) d_X6_init_14 ?_
  refine I_putF (a := a) (b := (a + 2)) (ci := 6) (fs := (fresh_ 6).set 0 (.ref (B + (a + 1)))) (ty := tyX6 1) C (by decide) ck_6 ((up_ne (by omega)).trans <| up_eq) ⟨by omega, by omega⟩ ifw_X6_15 rfl rfl (tyX6_ok 1 (by decide)) rfl rfl (by simp only [List.length_set, fr_len]; decide) d_X6_init_16 ?_
  intro H locs ls hP hS hl
  obtain ⟨c1, c2, c3, c4, c5, c6, c7, c8, c9, c10, c11⟩ := id C
  have hz0 : ok_m Z_m := fun _ _ => ok_0
  -- the world of three cells, as the loop finds it
  have hE : ∀ k, k < 3 → va_at D vwCl (B + a + k, cE_c (B + a, D, ca, S6_) Z_m k) H := by
    intro k hk
    have h9 := hP.2 (a + k) (by omega) (by omega)
    rw [c6_0 (B := B) (D := D) (ca := ca) (M := Z_m) (N := Z_m) hk0 hk1 hk2 (fun _ _ => rfl) k hk, Nat.add_assoc]
    have e9 : ∀ x, a ≤ x → x < a + 3 → (up_E (up_E (up_E (up_E (fun _ => .inr (6, fresh_ 6)) (a + 1) (.inl (ca 0, 16, .inl (fun _ => 0)))) a (.inr (6, (fresh_ 6).set 0 (.ref (B + (a + 1)))))) (a + 2) (.inl (ca 0, 4, .inl (fun _ => 0)))) a (.inr (6, ((fresh_ 6).set 0 (.ref (B + (a + 1)))).set 1 (.ref (B + (a + 2)))))) x = cE_c (G0_ B D ca) Z_m x := by
      intro x h1 h2
      have hz : ∀ x : Nat, a ≤ x → x < a + 3 → Z_m x = fun _ => 0 := fun _ _ _ => rfl
      by_cases hx0 : x = a
      · rw [hx0, up_eq]; exact (cE_o hk0 (by decide) (by rw [hz a (by omega) (by omega), fr_6]; rfl)).symm
      rw [up_ne hx0]
      by_cases hx2 : x = (a + 2)
      · rw [hx2, up_eq]; exact (cE_i hk2 (hz (a + 2) (by omega) (by omega))).symm
      rw [up_ne hx2]
      rw [up_ne hx0]
      by_cases hx1 : x = (a + 1)
      · rw [hx1, up_eq]; exact (cE_i hk1 (hz (a + 1) (by omega) (by omega))).symm
      rw [up_ne hx1]
      exfalso; omega
    rw [← e9 (a + k) (by omega) (by omega)]
    exact h9
  have hW := t_X6_init (X := (x_p X, x_l X, x_e X, x_R X, x_s X, x_m X, x_a X, x_b X, x_h X, x_c X, (2, 20), fun q => B + a ≤ q)) (G := (B + a, D, ca, S6_)) (M := Z_m) (z := z) (Q := Qn_ X (G0_ B D ca) M a (a + 3) 2 20)
    ⟨c1, c2, c3, c4, c5, c6.1, ⟨c7, c8, by show 2 ≤ (x_R X).cells; omega, by show 20 ≤ (x_R X).slots; omega⟩, fun q hq => hq.1⟩ ?_ 0 hf
  · refine hW hz0 H locs ls (fun k q hq => ?_) hS hl
    obtain ⟨hk, rfl⟩ := ws_in hq
    exact hE k hk
  · intro M1 hM1 hok H1 locs1 ls1 hP1 hS1 hl1
    cases hM1
    intro T hT X1
    have hsame : (T.setVm (x_s X).vm).heap.size ≤ (x_s X).heap.size + 2 := X1.same.2.2.1
    have hle : H1.size ≤ (x_s X).heap.size + 2 := by rw [← hT]; exact hsame
    have hlo : B + a + 2 < H1.size := (hP1 2 _ (ws_get (G := (B + a, D, ca, S6_)) (M := z) (show 2 < 3 by omega))).lt
    have hs0 : (x_s X).heap.size = B + (a + 1) := hsz
    refine (W.vret (Qc := va_Qv (S := Unit) (fun _ => True) (fun _ t => qI_c (G0_ B D ca) M a (a + 3) t) (fun q => B + a ≤ q)) c1 c2 c10 (fun t ht hW9 => ⟨⟨(), rfl, trivial, ⟨by rw [ht]; show H1.size = B + (a + 3); omega, fun x h1 h2 => ?_⟩, Ki_warm c6 hW9⟩, hS1.F ht⟩) hS1.2.2 d_X6_init_61 c11) T hT X1
    rw [ht]
    obtain ⟨k, rfl⟩ : ∃ k, x = a + k := ⟨x - a, by omega⟩
    have h8 := hP1 k _ (ws_get (G := (B + a, D, ca, S6_)) (M := z) (show k < 3 by omega))
    rw [c6_0 (B := B) (D := D) (ca := ca) (M := z) (N := M) hk0 hk1 hk2 hM k (by omega)] at h8
    show va_at D vwCl (B + (a + k), _) H1
    rw [← Nat.add_assoc]
    exact h8
