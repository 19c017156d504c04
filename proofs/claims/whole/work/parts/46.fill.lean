/-! the loop that fills a row of objects, in a constructor -/
section IFL
variable {K K' : KT_k} {X : XT_x} {B : Nat} {D : va_G} {ca : Nat → ClassId} {Q : State → Prop} {M : Mem_m}
theorem I_ext {G : GT_g} {cc oo lo n pc : Nat} {E E' : Nat → va_E} {lv : List (Nat × Value)} {st : List Value} (h : ∀ x, lo ≤ x → x < n → E x = E' x) (k : I_ K X G Q cc oo lo n E' pc lv st) : I_ K X G Q cc oo lo n E pc lv st := by
  intro H locs ls hP hS hl
  exact k H locs ls ⟨hP.1, fun a h1 h2 => by rw [← h a h1 h2]; exact hP.2 a h1 h2⟩ hS hl
theorem I_at {G : GT_g} {cc oo lo n pc cc' oo' n' : Nat} {E : Nat → va_E} {lv : List (Nat × Value)} {st : List Value} (h1 : cc = cc') (h2 : oo = oo') (h3 : n = n') (k : I_ K X G Q cc' oo' lo n' E pc lv st) : I_ K X G Q cc oo lo n E pc lv st := by
  subst h1; subst h2; subst h3; exact k
def pf_ (f : Nat → Option Nat) (i : Nat) : Nat → Option Nat := fun k => if k < i then f k else none
def ar_E (ca : Nat → ClassId) (t N : Nat) (f : Nat → Option Nat) : va_E := .inl (ca (t + 2), N, .inr (.inr (.inr (.inr f))))
set_option maxHeartbeats 4000000 in
theorem I_fill {a r t N ci co w mc ms nf h ex idx cx mx n0 cc oo k : Nat} {Cn host : String} {y : MethodName} {fs : List Value} {PT : Nat → va_E} {nI off1 off2 : Int} (C : Cy_ K X (G0_ B D ca))
    (hr : a < r ∧ r < n0) (hco : co < 13) (hcko : CK_ co) (hPa : PT a = .inr (co, fs)) (hPn : ∀ x, n0 ≤ x → PT x = cE_c (G0_ B D ca) M x)
    (hfw : FW_ K.2.2.1 idx co k) (hfs : fs[k]? = some (.ref (B + r)))
    (htc : tC_ t Cn) (hcn : vN_ ci = Cn) (hci : ci < 13) (hck : CK_ ci) (hnf : nf_c ci = nf) (hcl : Cond.classLink K.2.2.1 cx (vN_ ci) ∈ TB_t) (hin : Cond.instantiable (vN_ ci) (nf_c ci) ∈ TB_t) (hini : Cond.initialized (vN_ ci) ∈ TB_t)
    (hy : Yn_ y K') (hlk : L2_ K.2.2.1 mx y host) (hlev : K'.2.2.2 + 1 ≤ K.2.2.2) (hM : ∀ i, i < N → IN_ (x_l X) y K' mc ms (G0_ B D ca) M (n0 + w * i) (n0 + w * i + w) ci)
    (hKd : ∀ i, i < N → (kd0_ (n0 + w * i)).1 = ci) (hrO : ∀ i, i < N → rO_c B SH0_ r i = some (B + (n0 + w * i))) (hw : 0 < w) (hN : (N : Int) < 1000) (hvN : (Int8.ofInt nI).toInt32 = Int32.ofInt N)
    (hcells : cc + N * (1 + mc) ≤ (x_R X).cells) (hslots : oo + N * (nf + ms) ≤ (x_R X).slots) (hml : 1 < K.2.1)
    (d0 : decode K.1 h = .ok (.iload_n 1, 1)) (d1 : decode K.1 (h + 1) = .ok (.bipush nI, 2)) (d3 : decode K.1 (h + 3) = .ok (.if_icmp .ge off1, 3)) (d6 : decode K.1 (h + 6) = .ok (.aload_n 0, 1)) (d7 : decode K.1 (h + 7) = .ok (.getfield idx, 3)) (d10 : decode K.1 (h + 10) = .ok (.iload_n 1, 1)) (d11 : decode K.1 (h + 11) = .ok (.new cx, 3)) (d14 : decode K.1 (h + 14) = .ok (.dup, 1)) (d15 : decode K.1 (h + 15) = .ok (.invokespecial mx, 3)) (d18 : decode K.1 (h + 18) = .ok (.aastore, 1)) (d19 : decode K.1 (h + 19) = .ok (.iinc 1 1, 3)) (d22 : decode K.1 (h + 22) = .ok (.goto off2, 3))
    (o1 : ((h + 3 : Nat) : Int) + off1 = (ex : Int)) (o2 : ((h + 22 : Nat) : Int) + off2 = (h : Int))
    (kk : I_ K X (G0_ B D ca) Q (cc + N * (1 + mc)) (oo + N * (nf + ms)) a (n0 + w * N) (up_E PT r (ar_E ca t N (pf_ (rO_c B SH0_ r) N))) ex [(1, iv_i N), (0, .ref (B + a))] []) :
    ∀ m i, i + m = N → I_ K X (G0_ B D ca) Q (cc + i * (1 + mc)) (oo + i * (nf + ms)) a (n0 + w * i) (up_E PT r (ar_E ca t N (pf_ (rO_c B SH0_ r) i))) h [(1, iv_i i), (0, .ref (B + a))] [] := by
  intro m
  induction m with
  | zero =>
    intro i hi
    have hi : i = N := by omega
    subst hi
    refine I_iload_n (j := 0) C d0 rfl rfl ?_
    refine I_bipush (v := (i : Int)) C d1 hvN ?_
    exact I_icmp_ge (tgt := ex) C d3 o1 (by unfold ok_i; omega) (by unfold ok_i; omega) (fun hlt => absurd hlt (by omega)) (fun _ => kk)
  | succ m ih =>
    intro i hi
    have hiN : i < N := by omega
    have e1 : i * (1 + mc) + (1 + mc) = (i + 1) * (1 + mc) := by rw [Nat.add_mul, Nat.one_mul]
    have e2 : i * (nf + ms) + (nf + ms) = (i + 1) * (nf + ms) := by rw [Nat.add_mul, Nat.one_mul]
    have e3 : w * i + w = w * (i + 1) := by rw [Nat.mul_add, Nat.mul_one]
    have l1 : (i + 1) * (1 + mc) ≤ N * (1 + mc) := Nat.mul_le_mul_right _ hiN
    have l2 : (i + 1) * (nf + ms) ≤ N * (nf + ms) := Nat.mul_le_mul_right _ hiN
    refine I_iload_n (j := 0) C d0 rfl rfl ?_
    refine I_bipush (v := (N : Int)) C d1 hvN ?_
    refine I_icmp_ge (tgt := ex) C d3 o1 (by unfold ok_i; omega) (by unfold ok_i; omega) (fun _ => ?_) (fun hn => absurd hn (by omega))
    refine I_aload_n (j := 1) C d6 rfl rfl ?_
    refine I_getF (a := a) (b := r) (fs := fs) C hco hcko ((up_ne (by omega)).trans hPa) ⟨Nat.le_refl _, by omega⟩ hfw hfs d7 ?_
    refine I_iload_n (j := 0) C d10 rfl rfl ?_
    refine I_new (ci := ci) (nf := nf) hnf C hci hck hcl hin hini (by omega) (by omega) d11 ?_
    refine I_dup C d14 rfl ?_
    refine I_callN (b := n0 + w * i) (n' := n0 + w * i + w) C hy hlk hlev (hM i hiN) (by omega) rfl up_eq (by omega) (by omega) (Nat.le_of_ble_eq_true rfl) d15 ?_
    obtain ⟨vs, hvs⟩ : ∃ vs, cE_c (G0_ B D ca) M (n0 + w * i) = .inr (ci, vs) := ⟨_, cE_obj (G := G0_ B D ca) (hKd i hiN) hci⟩
    refine I_astq (a := r) (b := n0 + w * i) (i := i) (ci := ci) (t := t) (N := N) (vs := vs) (f := pf_ (rO_c B SH0_ r) i) C htc hci hcn ((cl_ne (by omega)).trans ((up_ne (by omega)).trans up_eq)) ⟨by omega, by omega⟩ ((cl_in (Nat.le_refl _)).trans hvs) ⟨by omega, by omega⟩ hiN (by omega) d18 ?_
    refine I_iinc (j := 0) (lv' := [(1, iv_i (wr_i ((i : Int) + 1))), (0, .ref (B + a))]) C d19 rfl hml rfl ?_
    refine I_goto (tgt := h) C d22 o2 ?_
    have hv : wr_i ((i : Int) + 1) = ((i + 1 : Nat) : Int) := by rw [wr_id (by unfold ok_i; omega)]; omega
    rw [hv]
    refine I_at (cc' := cc + (i + 1) * (1 + mc)) (oo' := oo + (i + 1) * (nf + ms)) (n' := n0 + w * (i + 1)) (by omega) (by omega) (by omega) ?_
    refine I_ext (fun x h1 h2 => ?_) (ih (i + 1) (by omega))
    by_cases hx : x = r
    · rw [hx, up_eq, up_eq]
      unfold ar_E
      congr 7
      funext q
      unfold va_up pf_
      by_cases hq : q = i
      · rw [if_pos hq, if_pos (by omega), hq, hrO i hiN]
      · rw [if_neg hq]
        by_cases hq2 : q < i
        · rw [if_pos hq2, if_pos (by omega)]
        · rw [if_neg hq2, if_neg (by omega)]
    · rw [up_ne hx, up_ne hx]
      by_cases hx2 : n0 + w * i ≤ x
      · rw [cl_in hx2, hPn x (by omega)]
      · rw [cl_ne hx2, up_ne (by omega), up_ne hx]
end IFL
