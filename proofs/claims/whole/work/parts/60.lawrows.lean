/-! rows for the law: its script, its flags, its compares -/
def sx_ (xs : Nat → Int32) (j k : Nat) : Int := (xs (6 * j + k)).toInt
def bz_ (v : Int) : Int := if v = 0 then 0 else 1
theorem ok_bz (v : Int) : ok_i (bz_ v) := by unfold bz_; split; exact okc rfl; exact okc rfl
theorem bz_01 (v : Int) : bz_ v = 0 ∨ bz_ v = 1 := by unfold bz_; split; exact Or.inl rfl; exact Or.inr rfl
abbrev K_L : KT_k := (cL_law, 8, RL, 2048)
def Lx_ (X : XT_x) (b L : Nat) (xs : Nat → Int32) : Prop := va_X b L xs (x_s X) (x_s X).heap ∧ b < (x_s X).heap.size ∧ ¬ x_A X b ∧ (L : Int) ≤ 3072
def LV_ (B b j : Nat) : List (Nat × Value) := [(4, iv_i ((6 * j : Nat) : Int)), (3, .ref (B + 611)), (2, .ref (B + 592)), (1, .ref (B + 0)), (0, .ref b)]
section VL
variable {K : KT_k} {X : XT_x} {G : GT_g} {Q : State → Prop} {M : Mem_m} {pc : Nat} {lv : List (Nat × Value)} {rest : List Value} {b L B j : Nat} {xs : Nat → Int32}
theorem V_slen {lv : List (Nat × Value)} (C : Cx_ K X G) (hX : Lx_ X b L xs) (hd : decode K.1 pc = .ok (.arraylength, 1)) (k : V_ K X G Q M (pc + 1) lv (iv_i (L : Int) :: rest)) : V_ K X G Q M pc lv (.ref b :: rest) := by
  intro hM H locs ls hP hS hl
  exact va_slen C.1 C.2.1 hX.1 hX.2.1 hX.2.2.1 hS hd (k hM H locs ls hP hS hl)
theorem V_sald {i : Nat} {lv : List (Nat × Value)} (C : Cx_ K X G) (hX : Lx_ X b L xs) (hi : i < L) (hd : decode K.1 pc = .ok (.iaload, 1)) (k : V_ K X G Q M (pc + 1) lv (iv_i (xs i).toInt :: rest)) : V_ K X G Q M pc lv (iv_i (i : Int) :: .ref b :: rest) := by
  intro hM H locs ls hP hS hl
  obtain ⟨h1, h2, h3, h4⟩ := hX
  have hok : ok_i (i : Int) := by unfold ok_i; omega
  have hc : (Int32.ofInt (i : Int)).toNatClampNeg = i := by rw [clamp_I hok (by omega)]; omega
  have hh := k hM H locs ls hP hS hl
  simp only [iv_i, of_I] at hh
  rw [← hc] at hh
  exact va_sld C.1 C.2.1 h1 h2 h3 hS (in_I hok (by omega) (by omega)) hd hh
theorem V_arg {k : Nat} {kI : Int} (C : Cx_ K X G) (hX : Lx_ X b L xs) (hk : 6 * j + k < L) (hkI : kI = (k : Int)) (hk5 : k ≤ 5) (d0 : decode K.1 pc = .ok (.aload_n 0, 1)) (d1 : decode K.1 (pc + 1) = .ok (.iload 4, 2)) (d3 : decode K.1 (pc + 3) = .ok (.iconst kI, 1)) (d4 : decode K.1 (pc + 4) = .ok (.iadd, 1)) (d5 : decode K.1 (pc + 5) = .ok (.iaload, 1))
    (kk : V_ K X G Q M (pc + 6) (LV_ B b j) (iv_i (sx_ xs j k) :: rest)) : V_ K X G Q M pc (LV_ B b j) rest := by
  subst hkI
  have h3 : (L : Int) ≤ 3072 := hX.2.2.2
  refine V_aload_n (j := 4) C d0 rfl rfl ?_
  refine V_iload (j := 0) C d1 rfl ?_
  refine V_iconst C d3 ?_
  refine V_iadd C d4 ?_
  have e : wr_i (((6 * j : Nat) : Int) + (k : Int)) = ((6 * j + k : Nat) : Int) := by
    rw [wr_id (by unfold ok_i; omega)]; omega
  rw [e]
  exact V_sald C hX hk d5 kk
theorem V_bool {v : Int} (C : Cx_ K X G) (hv : ok_i v) (d0 : decode K.1 pc = .ok (.ifCond .eq 7, 3)) (d3 : decode K.1 (pc + 3) = .ok (.iconst 1, 1)) (d4 : decode K.1 (pc + 4) = .ok (.goto 4, 3)) (d7 : decode K.1 (pc + 7) = .ok (.iconst 0, 1))
    (kk : V_ K X G Q M (pc + 8) lv (iv_i (bz_ v) :: rest)) : V_ K X G Q M pc lv (iv_i v :: rest) := by
  by_cases h0 : v = 0
  · refine V_if_eq (tgt := pc + 7) (o1 := some ()) (o2 := none) (z := ()) C d0 (by omega) hv (if_pos h0) (fun _ => ?_) (fun h => nomatch h)
    refine V_iconst C d7 ?_
    have e : bz_ v = 0 := if_pos h0
    rw [e] at kk
    exact kk
  · refine V_if_eq (tgt := pc + 7) (o1 := none) (o2 := some ()) (z := ()) C d0 (by omega) hv (if_neg h0) (fun h => nomatch h) (fun _ => ?_)
    refine V_iconst C d3 ?_
    refine V_goto (tgt := pc + 8) C d4 (by omega) ?_
    have e : bz_ v = 1 := if_neg h0
    rw [e] at kk
    exact kk
theorem V_same {r : Int} {off : Int} (C : Cx_ K X G) (hr : ok_i r) (hd : decode K.1 pc = .ok (.if_icmp .eq off, 3)) (ht : (pc : Int) + off = 1726) (kk : V_ K X G Q M 1726 lv rest) : V_ K X G Q M pc lv (iv_i r :: iv_i r :: rest) :=
  V_icmp_eq (tgt := 1726) (o1 := some ()) (o2 := none) (z := ()) C hd ht hr hr (if_pos rfl) (fun _ => kk) (fun h => nomatch h)
end VL
theorem vb_x {β : Type} {o : Option β} {v : β} (h : o = some v) : (vc_ SH0_ 0 11 o).bind some = some v := by
  unfold vc_
  rw [if_pos ⟨by decide, rfl⟩, h]; rfl
theorem vb_m {β : Type} {o : Option β} {v : β} (h : o = some v) : (vc_ SH0_ 592 12 o).bind some = some v := by
  unfold vc_
  rw [if_pos ⟨by decide, rfl⟩, h]; rfl
