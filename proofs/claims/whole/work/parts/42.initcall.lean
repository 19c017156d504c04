/-! contracts of constructors; their calls; their ends -/
def cl_E (P E : Nat → va_E) (b : Nat) : Nat → va_E := fun x => if b ≤ x then P x else E x
theorem cl_in {P E : Nat → va_E} {b x : Nat} (h : b ≤ x) : cl_E P E b x = P x := if_pos h
theorem cl_ne {P E : Nat → va_E} {b x : Nat} (h : ¬ b ≤ x) : cl_E P E b x = E x := if_neg h
def rm_n (k mc ms : Nat) : Room := { frames := k, cells := mc, slots := ms, locals := 40 * k }
def pI_c (G : GT_g) (a ci : Nat) (U : State) : Prop := Is_ G (a + 1) (fun _ => .inr (ci, fresh_ ci)) a U.heap ∧ Ki_ G U
def qI_c (G : GT_g) (M : Mem_m) (a n' : Nat) (t : State) : Prop := Is_ G n' (cE_c G M) a t.heap ∧ Ki_ G t
def IN_ (l : Launch) (y : MethodName) (K : KT_k) (mc ms : Nat) (G : GT_g) (M : Mem_m) (a n' ci : Nat) : Prop :=
  Met l y (.code y K.1 K.2.1 none :: TB_t) (rm_n K.2.2.2 mc ms) (va_Pc [.ref (G.1 + a)] (pI_c G a ci)) (va_Qv (S := Unit) (fun _ => True) (fun _ t => qI_c G M a n' t) (fun q => G.1 + a ≤ q)) mc ms (fun q => G.1 + a ≤ q)
def Qn_ (X : XT_x) (G : GT_g) (M : Mem_m) (a n' mc ms : Nat) : State → Prop := MQ (x_b X) (va_Qv (S := Unit) (fun _ => True) (fun _ t => qI_c G M a n' t) (fun q => G.1 + a ≤ q)) (x_a X) (x_s X) mc ms (fun q => G.1 + a ≤ q)
theorem pI_blind {G : GT_g} {a ci : Nat} {av : List Value} : FrameBlind (va_Pc av (pI_c G a ci)) := fun _ _ _ _ h => ⟨h.1, h.2.1, Ki_calling h.2.2⟩
theorem in_of {l : Launch} {y : MethodName} {K : KT_k} {mc ms : Nat} {G : GT_g} {M : Mem_m} {a n' ci : Nat} (hy : plainName y.cls = true) (ho : K.2.2.1 = y.cls) (hnm : y.name = "<init>") (hsz : 1 ≤ K.2.1)
    (b : ∀ X : XT_x, x_l X = l → Cy_ K X G → (x_R X).cells = mc → (x_R X).slots = ms → I_ K X G (Qn_ X G M a n' mc ms) 0 0 a (a + 1) (fun _ => .inr (ci, fresh_ ci)) 0 [(0, .ref (G.1 + a))] []) : IN_ l y K mc ms G M a n' ci := by
  refine Met.ofW (cc := K.1) (maxL := K.2.1) (ret := none) hy rfl ?_
  intro p e s m args below meth c s₁ B hml hv
  obtain ⟨rfl, hI, hK⟩ := hv
  have hts := atoms_spec (ws := .code y K.1 K.2.1 none :: TB_t) B.pre
  have hown : s.vm.findClass y.cls = some m.cls := findClass_of_methodNamed B.named
  have hin : meth.name = "<init>" := (name_of_methodNamed B.named B.method).1.trans hnm
  rw [lg_entry_eq]
  have h := b (p, l, e, (headSpec (.code y K.1 K.2.1 none :: TB_t) (rm_n K.2.2.2 mc ms)).room, s, m, #[.ref (G.1 + a)], below, meth, c, (0, 0), fun _ => True) rfl
    ⟨B.exec, B.bytes, hml, by rw [ho]; exact hown, fun w hw => hts w (List.mem_cons_of_mem _ hw), hK, Nat.le_refl _, Nat.le_refl _, hin, B.returns, B.notSynchronized⟩ rfl rfl
  exact h s.heap [] _ hI va_S.rf (lv_entry [.ref (G.1 + a)] hsz)
def Yn_ (y : MethodName) (K : KT_k) : Prop :=
  Cond.code y K.1 K.2.1 none ∈ TB_t ∧ Cond.initialized y.cls ∈ TB_t ∧ (y.cls ≠ "java/lang/invoke/MethodHandle" ∧ y.cls ≠ "java/lang/invoke/VarHandle") ∧ (parseMethodDescriptor y.desc).map (fun d => d.parameters.length) = some 0 ∧ K.2.1 ≤ 21 ∧ y.name = "<init>" ∧ Cond.instanceMethod y ∈ TB_t
section IC
variable {K K' : KT_k} {X : XT_x} {G : GT_g} {Q : State → Prop} {cc oo lo n pc : Nat} {E : Nat → va_E} {lv : List (Nat × Value)} {rest : List Value} {M : Mem_m}
theorem I_vret {mc ms : Nat} (C : Cy_ K X G) (hd : decode K.1 pc = .ok (.return_, 1)) (hc : cc = mc) (ho : oo = ms) (hE : ∀ x, lo ≤ x → x < n → E x = cE_c G M x) : I_ K X G (Qn_ X G M lo n mc ms) cc oo lo n E pc lv [] := by
  subst hc; subst ho
  intro H locs ls hP hS hl
  obtain ⟨c1, c2, c3, c4, c5, c6, c7, c8, c9, c10, c11⟩ := C
  exact W.vret c1 c2 c10 (fun t ht hW => ⟨⟨(), rfl, trivial, ⟨by rw [ht]; exact hP.1, fun x h1 h2 => by rw [ht, ← hE x h1 h2]; exact hP.2 x h1 h2⟩, Ki_warm c6 hW⟩, hS.F ht⟩) hS.2.2 hd c11
theorem i_pay (C : Cy_ K X G) {ws : List Cond} (h : ∀ w ∈ ws, w ∈ TB_t) : ∀ w ∈ ws, ∀ (a' : Array Value) (U : State), (x_s X).WarmedH U.vm → w.before a' U = true := pay_in C.2.2.2.2.1 (tb_good h)
theorem i_code {y : MethodName} (hy : Yn_ y K') : ∀ w ∈ Cond.code y K'.1 K'.2.1 none :: TB_t, w ∈ TB_t := fun w hw => by
  rcases List.mem_cons.mp hw with rfl | hw
  · exact hy.1
  · exact hw
/-- what comes back -/
theorem i_fin {b n' mc ms : Nat} {H : Heap} {locs : List Loc} {ls : Array Slot} {st : List Value} (hlo : lo ≤ b) (hP : Is_ G n E lo H) (hS : va_S (fun q => G.1 + lo ≤ q) (x_s X).heap H locs) (hl : lv_has ls K.2.1 lv) {av : Array Value}
    (hr : va_Run (x_p X) (x_l X) (x_e X) (x_R X) (x_s X) (x_m X) (x_a X) (x_b X) (x_h X) (x_c X) H locs cc oo mc ms (F0 (x_m X) pc ls st) rest (va_Qv (S := Unit) (fun _ => True) (fun _ t => qI_c G M b n' t) (fun q => G.1 + b ≤ q) av) (fun q => G.1 + b ≤ q))
    (hn : n = b + 1) (kk : I_ K X G Q (cc + mc) (oo + ms) lo n' (cl_E (cE_c G M) E b) (pc + 3) lv rest) : W (x_p X) (x_l X) (x_e X) (x_R X) (x_s X) (x_m X) (x_a X) (x_b X) (x_h X) (x_c X) H locs cc oo Q (F0 (x_m X) pc ls st) := by
  refine va_callv hr hS (fun q _ h => by show G.1 + lo ≤ q; have h : G.1 + b ≤ q := h; omega) (fun q h => by show G.1 + lo ≤ q; have h : G.1 + b ≤ q := h; omega) (fun u t H1 locs1 ht hvm hw hB hz hk hS1 => ?_)
  obtain ⟨⟨q1, q2⟩, -⟩ := hB
  rw [ht] at q1 q2
  refine kk H1 locs1 ls ⟨q1, fun x h1 h2 => ?_⟩ hS1 hl
  by_cases hx : b ≤ x
  · rw [cl_in hx]; exact q2 x hx h2
  · rw [cl_ne hx]
    exact (hP.2 x h1 (by omega)).kept (hk _ (by show G.1 + x < _; rw [hP.1]; omega) (by show ¬ (G.1 + b ≤ G.1 + x); omega))
theorem i_pre {b ci : Nat} {H : Heap} (C : Cy_ K X G) (hlo : lo ≤ b) (hP : Is_ G n E lo H) (hn : n = b + 1) (hE : E b = .inr (ci, fresh_ ci)) : PreS (x_s X) H (va_Pc [.ref (G.1 + b)] (pI_c G b ci)) [.ref (G.1 + b)] := by
  refine ⟨pI_blind, fun U hU hW => ⟨rfl, ⟨by rw [hU, ← hn]; exact hP.1, fun x h1 h2 => ?_⟩, Ki_warm C.2.2.2.2.2.1 hW⟩⟩
  have hx : x = b := by omega
  subst hx
  rw [hU]
  have h := hP.2 x hlo (by omega)
  rw [hE] at h
  exact h
theorem I_call {y : MethodName} {b n' ci mc ms idx : Nat} (C : Cy_ K X G) (hy : Yn_ y K') (hw : L1_ K.2.2.1 idx y) (hlev : K'.2.2.2 + 1 ≤ K.2.2.2) (hM : IN_ (x_l X) y K' mc ms G M b n' ci) (hlo : lo ≤ b) (hn : n = b + 1) (hE : E b = .inr (ci, fresh_ ci)) (hc : cc + mc ≤ (x_R X).cells) (hs : oo + ms ≤ (x_R X).slots) (hcat : (rest.map fun v => v.category).sum ≤ 8) (hd : decode K.1 pc = .ok (.invokespecial idx, 3))
    (kk : I_ K X G Q (cc + mc) (oo + ms) lo n' (cl_E (cE_c G M) E b) (pc + 3) lv rest) : I_ K X G Q cc oo lo n E pc lv (.ref (G.1 + b) :: rest) := by
  intro H locs ls hP hS hl
  have hpre := i_pre C hlo hP hn hE
  obtain ⟨y1, y2, y3, y4, y5, y6, y7⟩ := hy
  obtain ⟨c1, c2, c3, c4, c5, c6, c7, c8, -⟩ := id C
  refine i_fin hlo hP hS hl (va_runI (As := []) (rest := rest) ⟨c1, c2, c3, c4, c5⟩ hM ⟨⟨rfl, rfl, Nat.le_trans hlev c7, ?_, i_pay C (i_code ⟨y1, y2, y3, y4, y5, y6, y7⟩), List.mem_cons_self, c5 _ y1, c5 _ y2, y3, fun sig hsg => ?_, c5 _ hw⟩, y6, c5 _ y7⟩ hpre rfl rfl hl.1 rfl (lv_room hcat) hd ⟨hc, hs⟩) hn kk
  · show 8 + (K'.2.1 + 11) + 40 * K'.2.2.2 ≤ (x_R X).locals; omega
  · rw [hsg] at y4; exact (Option.some.inj y4).symm
theorem I_callN {y : MethodName} {b n' ci mc ms idx : Nat} {host : String} (C : Cy_ K X G) (hy : Yn_ y K') (hw : L2_ K.2.2.1 idx y host) (hlev : K'.2.2.2 + 1 ≤ K.2.2.2) (hM : IN_ (x_l X) y K' mc ms G M b n' ci) (hlo : lo ≤ b) (hn : n = b + 1) (hE : E b = .inr (ci, fresh_ ci)) (hc : cc + mc ≤ (x_R X).cells) (hs : oo + ms ≤ (x_R X).slots) (hcat : (rest.map fun v => v.category).sum ≤ 8) (hd : decode K.1 pc = .ok (.invokespecial idx, 3))
    (kk : I_ K X G Q (cc + mc) (oo + ms) lo n' (cl_E (cE_c G M) E b) (pc + 3) lv rest) : I_ K X G Q cc oo lo n E pc lv (.ref (G.1 + b) :: rest) := by
  intro H locs ls hP hS hl
  have hpre := i_pre C hlo hP hn hE
  obtain ⟨y1, y2, y3, y4, y5, y6, y7⟩ := hy
  obtain ⟨c1, c2, c3, c4, c5, c6, c7, c8, -⟩ := id C
  refine i_fin hlo hP hS hl (va_runIN (As := []) (rest := rest) (n := 0) ⟨c1, c2, c3, c4, c5⟩ hM ⟨⟨⟨rfl, rfl, Nat.le_trans hlev c7, ?_, i_pay C (i_code ⟨y1, y2, y3, y4, y5, y6, y7⟩), List.mem_cons_self⟩, c5 _ y1, c5 _ y2, y3, fun sig hsg => ?_, va_Nw.use rfl (c6.1.2 _ hw)⟩, y6, c5 _ y7⟩ hpre rfl rfl hl.1 rfl (lv_room hcat) hd ⟨hc, hs⟩) hn kk
  · show 8 + (K'.2.1 + 11) + 40 * K'.2.2.2 ≤ (x_R X).locals; omega
  · rw [hsg] at y4; exact (Option.some.inj y4).symm
end IC
