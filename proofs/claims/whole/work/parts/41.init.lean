/-! the judgement I_ for constructors: the cells B .. B + n - 1 are there, cell B + a holds E a; rows that make cells -/
def ao_L : List String := ["TongueBook$Card", "TongueBook$Note", "TongueBook$Rule", "TongueBook$Saying", "TongueBook$Sounds", "TongueBook$Shelf"]
def Ki_ (G : GT_g) (U : State) : Prop := Kn_ G U ∧ ∀ C ∈ ao_L, va_AO C U
theorem Ki_warm {G : GT_g} {s U : State} (h : Ki_ G s) (hW : s.WarmedH U.vm) : Ki_ G U := ⟨Kn_warm h.1 hW, fun C hC => (h.2 C hC).moved hW.alike⟩
theorem Ki_calling {G : GT_g} {U : State} {g : JFrame} {mk : MethodId} {a : Array Value} (h : Ki_ G U) : Ki_ G (U.calling g mk a) := ⟨Kn_calling h.1, fun C hC => va_AO.moved (u := U) (U := U.calling g mk a) (Vm.Alike.refl U.vm) (h.2 C hC)⟩
def Cy_ (K : KT_k) (X : XT_x) (G : GT_g) : Prop :=
  (x_p X).tables.exec = Jvm.exec ∧ (x_c X).code = K.1 ∧ (x_c X).maxLocals = K.2.1 ∧ (x_s X).vm.findClass K.2.2.1 = some (x_m X).cls ∧ (∀ w ∈ TB_t, w.before (x_a X) (x_s X) = true) ∧ Ki_ G (x_s X) ∧ K.2.2.2 ≤ (x_R X).frames ∧ 40 * K.2.2.2 ≤ (x_R X).locals ∧ (x_h X).name = "<init>" ∧ (x_h X).sig.returnType = none ∧ (x_h X).locks = false
def up_E (E : Nat → va_E) (a : Nat) (e : va_E) : Nat → va_E := fun x => if x = a then e else E x
def Is_ (G : GT_g) (n : Nat) (E : Nat → va_E) (lo : Nat) (H : Heap) : Prop := H.size = G.1 + n ∧ ∀ a, lo ≤ a → a < n → va_at G.2.1 vwCl (G.1 + a, E a) H
def I_ (K : KT_k) (X : XT_x) (G : GT_g) (Q : State → Prop) (cc oo lo n : Nat) (E : Nat → va_E) (pc : Nat) (lv : List (Nat × Value)) (st : List Value) : Prop :=
  ∀ (H : Heap) (locs : List Loc) (ls : Array Slot), Is_ G n E lo H → va_S (fun q => G.1 + lo ≤ q) (x_s X).heap H locs → lv_has ls K.2.1 lv →
    W (x_p X) (x_l X) (x_e X) (x_R X) (x_s X) (x_m X) (x_a X) (x_b X) (x_h X) (x_c X) H locs cc oo Q (F0 (x_m X) pc ls st)
section IR
variable {K : KT_k} {X : XT_x} {G : GT_g} {Q : State → Prop} {cc oo lo n pc : Nat} {E : Nat → va_E} {lv : List (Nat × Value)} {rest : List Value}
theorem I_aload_n {j i : Nat} {x : Nat} {k : Fin 4} (C : Cy_ K X G) (hd : decode K.1 pc = .ok (.aload_n k, 1)) (hi : (k : Nat) = i) (hj : lv[j]? = some (i, .ref x)) (k : I_ K X G Q cc oo lo n E (pc + 1) lv (.ref x :: rest)) : I_ K X G Q cc oo lo n E pc lv rest := by
  intro H locs ls hP hS hl
  exact lv_aload_n C.1 C.2.1 hd hi (lv_at hl j hj) (k H locs ls hP hS hl)
theorem I_iload_n {j i : Nat} {x : Int} {k : Fin 4} (C : Cy_ K X G) (hd : decode K.1 pc = .ok (.iload_n k, 1)) (hi : (k : Nat) = i) (hj : lv[j]? = some (i, iv_i x)) (k : I_ K X G Q cc oo lo n E (pc + 1) lv (iv_i x :: rest)) : I_ K X G Q cc oo lo n E pc lv rest := by
  intro H locs ls hP hS hl
  exact lv_iload_n C.1 C.2.1 hd hi (lv_at hl j hj) (k H locs ls hP hS hl)
theorem I_dup {v : Value} (C : Cy_ K X G) (hd : decode K.1 pc = .ok (.dup, 1)) (hv : v.category = 1) (k : I_ K X G Q cc oo lo n E (pc + 1) lv (v :: v :: rest)) : I_ K X G Q cc oo lo n E pc lv (v :: rest) := by
  intro H locs ls hP hS hl
  exact lv_dup C.1 C.2.1 hd hv (k H locs ls hP hS hl)
theorem I_iconst {x : Int} (C : Cy_ K X G) (hd : decode K.1 pc = .ok (.iconst x, 1)) (k : I_ K X G Q cc oo lo n E (pc + 1) lv (iv_i x :: rest)) : I_ K X G Q cc oo lo n E pc lv rest := by
  intro H locs ls hP hS hl
  exact lv_iconst (v := Int32.ofInt x) C.1 C.2.1 hd rfl (k H locs ls hP hS hl)
theorem I_bipush {x v : Int} (C : Cy_ K X G) (hd : decode K.1 pc = .ok (.bipush x, 2)) (hv : (Int8.ofInt x).toInt32 = Int32.ofInt v) (k : I_ K X G Q cc oo lo n E (pc + 2) lv (iv_i v :: rest)) : I_ K X G Q cc oo lo n E pc lv rest := by
  intro H locs ls hP hS hl
  exact lv_bipush (v := Int32.ofInt v) C.1 C.2.1 hd hv (k H locs ls hP hS hl)
theorem I_sipush {x v : Int} (C : Cy_ K X G) (hd : decode K.1 pc = .ok (.sipush x, 3)) (hv : (Int16.ofInt x).toInt32 = Int32.ofInt v) (k : I_ K X G Q cc oo lo n E (pc + 3) lv (iv_i v :: rest)) : I_ K X G Q cc oo lo n E pc lv rest := by
  intro H locs ls hP hS hl
  exact lv_sipush (v := Int32.ofInt v) C.1 C.2.1 hd hv (k H locs ls hP hS hl)
theorem I_istore_n {i : Nat} {x : Int} {lv' : List (Nat × Value)} {k : Fin 4} (C : Cy_ K X G) (hd : decode K.1 pc = .ok (.istore_n k, 1)) (hi : (k : Nat) = i) (hn : i < K.2.1) (hl' : (i, Value.int (Int32.ofInt x)) :: lv.filter (fun q => !(q.1 == i) && !(q.1 + 1 == i && q.2.category == 2)) = lv') (k : I_ K X G Q cc oo lo n E (pc + 1) lv' rest) : I_ K X G Q cc oo lo n E pc lv (iv_i x :: rest) := by
  intro H locs ls hP hS hl
  exact lv_istore_n C.1 C.2.1 hd hi hl hn hl' fun ls' h' => k H locs ls' hP hS h'
theorem I_iinc {i j : Nat} {m x : Int} {lv' : List (Nat × Value)} (C : Cy_ K X G) (hd : decode K.1 pc = .ok (.iinc i m, 3)) (hj : lv[j]? = some (i, iv_i x)) (hn : i < K.2.1) (hl' : (i, Value.int (Int32.ofInt (wr_i (x + m)))) :: lv.filter (fun q => !(q.1 == i) && !(q.1 + 1 == i && q.2.category == 2)) = lv') (k : I_ K X G Q cc oo lo n E (pc + 3) lv' rest) : I_ K X G Q cc oo lo n E pc lv rest := by
  intro H locs ls hP hS hl
  exact lv_iinc C.1 C.2.1 hd hl hj (ad_I x m) hn hl' fun ls' h' => k H locs ls' hP hS h'
theorem I_goto {off : Int} {tgt : Nat} (C : Cy_ K X G) (hd : decode K.1 pc = .ok (.goto off, 3)) (ht : (pc : Int) + off = (tgt : Int)) (k : I_ K X G Q cc oo lo n E tgt lv rest) : I_ K X G Q cc oo lo n E pc lv rest := by
  intro H locs ls hP hS hl
  exact lv_goto C.1 C.2.1 hd ht (k H locs ls hP hS hl)
theorem I_icmp_ge {x y off : Int} {tgt : Nat} (C : Cy_ K X G) (hd : decode K.1 pc = .ok (.if_icmp .ge off, 3)) (ht : (pc : Int) + off = (tgt : Int)) (hx : ok_i x) (hy : ok_i y) (k1 : x < y → I_ K X G Q cc oo lo n E (pc + 3) lv rest) (k2 : ¬ x < y → I_ K X G Q cc oo lo n E tgt lv rest) : I_ K X G Q cc oo lo n E pc lv (iv_i y :: iv_i x :: rest) := by
  intro H locs ls hP hS hl
  have e := lt_I hx hy
  exact lv_icmp_ge C.1 C.2.1 hd ht (fun hc => k2 (fun q => Int32.not_lt.mpr hc (e.mpr q)) H locs ls hP hS hl) (fun hc => k1 (e.mp (Int32.not_le.mp hc)) H locs ls hP hS hl)
theorem I_obj {a idx : Nat} (C : Cy_ K X G) (hw : Cond.methodLink K.2.2.1 idx Lib.objectInit ∈ TB_t) (ho : Cond.instanceMethod Lib.objectInit ∈ TB_t ∧ Cond.code Lib.objectInit ⟨#[0xb1]⟩ 1 none ∈ TB_t) (hlev : 1 ≤ K.2.2.2) (hcat : (rest.map fun v => v.category).sum ≤ 8) (hd : decode K.1 pc = .ok (.invokespecial idx, 3))
    (k : I_ K X G Q cc oo lo n E (pc + 3) lv rest) : I_ K X G Q cc oo lo n E pc lv (.ref a :: rest) := by
  intro H locs ls hP hS hl
  obtain ⟨c1, c2, c3, c4, c5, c6, c7, c8, -⟩ := C
  refine W.objInit c1 c2 c4 (c5 _ hw) (c5 _ ho.1) (c5 _ ho.2) rfl (by rw [c3]; exact hl.1) rfl hd (Nat.le_trans hlev c7) (by show 2 * 0 + _ + 12 ≤ _; omega) ?_
  exact k H locs ls hP hS hl
theorem Is_push {H H1 : Heap} {e : va_E} (h : Is_ G n E lo H) (z : H1.size = G.1 + n + 1) (o : ∀ q, q < G.1 + n → H1[q]? = H[q]?) (hn : va_at G.2.1 vwCl (G.1 + n, e) H1) : Is_ G (n + 1) (up_E E n e) lo H1 := by
  refine ⟨by omega, fun a h1 h2 => ?_⟩
  unfold up_E
  by_cases ha : a = n
  · subst ha; rw [if_pos rfl]; exact hn
  · rw [if_neg ha]
    exact (h.2 a h1 (by omega)).kept (o _ (by show G.1 + a < _; omega))
theorem Is_set {H H1 : Heap} {e : va_E} {b : Nat} (h : Is_ G n E lo H) (z : H1.size = H.size) (o : ∀ q, q ≠ G.1 + b → H1[q]? = H[q]?) (hn : va_at G.2.1 vwCl (G.1 + b, e) H1) : Is_ G n (up_E E b e) lo H1 := by
  refine ⟨by rw [z]; exact h.1, fun a h1 h2 => ?_⟩
  unfold up_E
  by_cases ha : a = b
  · subst ha; rw [if_pos rfl]; exact hn
  · rw [if_neg ha]
    exact (h.2 a h1 h2).kept (o _ (by show G.1 + a ≠ _; omega))
theorem S_push {H H1 : Heap} {locs : List Loc} (hS : va_S (fun q => G.1 + lo ≤ q) (x_s X).heap H locs) (z : H.size ≤ H1.size) (o : ∀ q, q < H.size → H1[q]? = H[q]?) : va_S (fun q => G.1 + lo ≤ q) (x_s X).heap H1 locs :=
  ⟨Nat.le_trans hS.1 z, fun q h1 h2 => (o q (Nat.lt_of_lt_of_le h1 hS.1)).trans (hS.2.1 q h1 h2), hS.2.2⟩
/-- what a fresh object of a class holds -/
def fresh_ (ci : Nat) : List Value := (List.range (nf_c ci)).map fun k => match parseFieldDescriptor (vT_ ci k).2.2.1 with
  | some ty => defaultValue ty
  | none => .null
theorem I_new {ci idx nf : Nat} (hnf : nf_c ci = nf) (C : Cy_ K X G) (hci : ci < 13) (hck : CK_ ci) (hcl : Cond.classLink K.2.2.1 idx (vN_ ci) ∈ TB_t) (hin : Cond.instantiable (vN_ ci) (nf_c ci) ∈ TB_t) (hini : Cond.initialized (vN_ ci) ∈ TB_t) (hc : cc + 1 ≤ (x_R X).cells) (hs : oo + nf ≤ (x_R X).slots) (hd : decode K.1 pc = .ok (.new idx, 3))
    (k : I_ K X G Q (cc + 1) (oo + nf) lo (n + 1) (up_E E n (.inr (ci, fresh_ ci))) (pc + 3) lv (.ref (G.1 + n) :: rest)) : I_ K X G Q cc oo lo n E pc lv rest := by
  subst hnf
  intro H locs ls hP hS hl
  obtain ⟨c1, c2, c3, c4, c5, c6, c7, c8, -⟩ := C
  have hKn := c6.1.1.1 ci _ (vw_get hci)
  obtain ⟨k1, ⟨ty, k2⟩, k3⟩ := hck
  refine W.newcK c1 c2 c4 (c5 _ hcl) (c5 _ hin) (c5 _ hini) rfl hd hc hs hKn.2.1 hP.1 fun H1 kC hkC e1 z1 o1 => ?_
  refine k H1 locs ls (Is_push hP (by omega) o1 ?_) (S_push hS (by rw [hP.1]; omega) (fun q hq => o1 q (by rw [← hP.1]; exact hq))) hl
  refine ⟨_, vw_get hci, (u_born ty c5 k1 hKn hkC e1 k2).to fun j hj => ?_⟩
  show defaultValue (ty j) = vp_V (fresh_ ci) j
  unfold vp_V fresh_
  rw [List.getD_eq_getElem?_getD, List.getElem?_map, List.getElem?_range hj]
  simp only [Option.map_some, Option.getD_some, k2 j hj]
theorem I_newarr {aty : ArrayType} {ty : FieldType} {t N : Nat} {v0 : Int32} (C : Cy_ K X G) (hty : newarray.typeOf aty = ty) (hw : Cond.arrayClass ty ∈ TB_t) (ht : (tys_t G.2.2.1)[t]? = some (G.2.2.1 t, ty)) (hra : ∀ U cA, va_RA U cA ty → U.vm.findClass ("[" ++ ty.toString) = some cA) (hdv : defaultValue ty = .int v0) (hb : N * componentBytes ty ≤ 536870912) (hN : (N : Int) < 2147483648) (hc : cc + 1 ≤ (x_R X).cells) (hs : oo + N ≤ (x_R X).slots) (hd : decode K.1 pc = .ok (.newarray aty, 2))
    (k : I_ K X G Q (cc + 1) (oo + N) lo (n + 1) (up_E E n (.inl (G.2.2.1 t, N, .inl (fun _ => v0)))) (pc + 2) lv (.ref (G.1 + n) :: rest)) : I_ K X G Q cc oo lo n E pc lv (iv_i N :: rest) := by
  intro H locs ls hP hS hl
  obtain ⟨c1, c2, c3, c4, c5, c6, c7, c8, -⟩ := C
  subst hty
  have hok : ok_i (N : Int) := by unfold ok_i; omega
  refine va_newaK c1 c2 (c5 _ hw) rfl hd rfl (N := N) (fun q => ?_) (by rw [clamp_I hok (by omega)]; omega) hb hc hs hP.1 fun H1 cA e1 z1 o1 hAr hNm => ?_
  · rw [show (0 : Int32) = Int32.ofInt 0 from rfl, lt_I hok ok_0] at q; omega
  have hcA : cA = G.2.2.1 t := Option.some.inj (hNm.symm.trans (hra _ _ (c6.1.1.2 t _ ht).2))
  subst hcA
  refine k H1 locs ls (Is_push hP (by omega) o1 ?_) (S_push hS (by rw [hP.1]; omega) (fun q hq => o1 q (by rw [← hP.1]; exact hq))) hl
  show H1[G.1 + n]? = some (vp_cell _ _)
  rw [vp_cell_i, e1, hdv]
theorem I_newq {Cn : String} {t idx N : Nat} (C : Cy_ K X G) (hAO : Cn ∈ ao_L) (hw : Cond.classLink K.2.2.1 idx Cn ∈ TB_t) (ht : tC_ t Cn) (hN : (N : Int) < 100000000) (hc : cc + 1 ≤ (x_R X).cells) (hs : oo + N ≤ (x_R X).slots) (hd : decode K.1 pc = .ok (.anewarray idx, 3))
    (k : I_ K X G Q (cc + 1) (oo + N) lo (n + 1) (up_E E n (.inl (G.2.2.1 (t + 2), N, .inr (.inr (.inr (.inr (fun _ => none))))))) (pc + 3) lv (.ref (G.1 + n) :: rest)) : I_ K X G Q cc oo lo n E pc lv (iv_i N :: rest) := by
  intro H locs ls hP hS hl
  obtain ⟨c1, c2, c3, c4, c5, c6, c7, c8, -⟩ := C
  have hok : ok_i (N : Int) := by unfold ok_i; omega
  have hcl : (Int32.ofInt (N : Int)).toNatClampNeg = N := by rw [clamp_I hok (by omega)]; omega
  refine W.anew c1 c2 c4 (c5 _ hw) (va_AO.use (c6.2 _ hAO)) rfl hd rfl (fun q => ?_) (by rw [hcl]; omega) hc (by rw [hcl]; exact hs) fun cA kA comp f1 f2 f3 f4 => ?_
  · rw [show (0 : Int32) = Int32.ofInt 0 from rfl, lt_I hok ok_0] at q; omega
  obtain ⟨kA', comp', g1, g2, g3, g4⟩ := (c6.1.1.2 (t + 2) _ (ht _)).2
  have hcA : cA = G.2.2.1 (t + 2) := Option.some.inj (f1.symm.trans g4)
  subst hcA
  rw [hcl]
  generalize hH1 : H.push ({ cls := G.2.2.1 (t + 2), slots := Array.replicate N .null, vm := .none } : Cell) = H1
  have z1 : H1.size = H.size + 1 := by rw [← hH1, Array.size_push]
  have e1 : H1[H.size]? = some (arrV (G.2.2.1 (t + 2)) N (fun _ => .null)) := by rw [← hH1, Array.getElem?_push_size, ← arrV_new]
  have o1 : ∀ q : Nat, q < H.size → H1[q]? = H[q]? := fun q hq => by rw [← hH1, Array.getElem?_push, if_neg (Nat.ne_of_lt hq)]
  rw [hP.1]
  rw [hP.1] at e1
  refine k H1 locs ls (Is_push hP (by rw [z1, hP.1]) (fun q hq => o1 q (by rw [hP.1]; exact hq)) ?_) (S_push hS (by omega) o1) hl
  show H1[G.1 + n]? = some (vp_cell _ _)
  rw [vp_cell_q]
  exact e1
theorem I_putF {a b ci k idx : Nat} {fs : List Value} {ty : FieldType} (C : Cy_ K X G) (hci : ci < 13) (hck : CK_ ci) (hE : E a = .inr (ci, fs)) (ha : lo ≤ a ∧ a < n) (hw : FW_ K.2.2.1 idx ci k) (hfin : (vT_ ci k).2.2.2 = true) (hdecl : (vT_ ci k).1 = K.2.2.1) (hty : parseFieldDescriptor (vT_ ci k).2.2.1 = some ty) (hn : narrow ty (.ref (G.1 + b)) = .ref (G.1 + b)) (hf : fits ty (.ref (G.1 + b)) = true) (hlen : k < fs.length) (hd : decode K.1 pc = .ok (.putfield idx, 3))
    (kk : I_ K X G Q cc oo lo n (up_E E a (.inr (ci, fs.set k (.ref (G.1 + b))))) (pc + 3) lv rest) : I_ K X G Q cc oo lo n E pc lv (.ref (G.1 + b) :: .ref (G.1 + a) :: rest) := by
  intro H locs ls hP hS hl
  obtain ⟨c1, c2, c3, c4, c5, c6, c7, c8, c9, -⟩ := C
  obtain ⟨w1, w2, w3⟩ := hw
  obtain ⟨k1, ⟨ty0, k2⟩, k3⟩ := hck
  have hK := c6.1.1
  have hap := va_apart (own := K.2.2.1) c5 k1 ty0 k2 k3 hK (vw_get hci)
  have hat := hP.2 a ha.1 ha.2
  rw [hE] at hat
  obtain ⟨r, h1, cell, q1, q2, q3, q4⟩ := hat
  have hr : r = (vN_ ci, vT_ ci, nf_c ci) := Option.some.inj (h1.symm.trans (vw_get hci))
  subst hr
  obtain ⟨hSl, hfc, kC, hkC, hkind⟩ := hK.1 ci _ (vw_get hci)
  obtain ⟨cf, kf, fi, f, hi, hsl⟩ := hSl k w2
  have hlay := c5 _ (k1 _ (u_in_lay w2))
  unfold u_lay at hlay
  rw [if_pos hfin] at hlay
  have hst := (u_facts hfc hkC (u_lays c5 k1 w2) hi).1
  have hcf : (x_m X).cls = cf := by
    obtain ⟨_, _, c', _, _, _, -, -, hf', -, -, -, hown2, -⟩ := Cond.laysFinal_spec hlay
    have e1 : c' = cf := by have := hi.symm.trans hf'; simp at this; exact this.1.symm
    rw [hdecl] at hown2
    rw [← e1]; exact Option.some.inj (c4.symm.trans hown2)
  have h6 := u_fits hfc hkC hkind (Or.inr hlay) hi hty hn hf
  refine W.putFinK c1 c2 c4 (c5 _ w3) hi hst hcf c9 (by rw [q2]; exact h6) q1 q3 (by rw [hsl]; exact k2_hasslot (q4 k w2)) rfl rfl hd fun H' e1 e2 e3 => ?_
  rw [hsl] at e1 ⊢
  exact kk H' _ ls (Is_set hP e2 e3 ⟨_, vw_get hci, t_OB.to (V := updV (vp_V fs) k (.ref (G.1 + b))) ⟨_, e1, q2, q3, t_set q4 hap w2 _⟩ (fun j _ => vp_updV_set hlen _ j)⟩) (hS.put e2 e3 (by show G.1 + lo ≤ _; omega)) hl
theorem I_putI {a ci k idx : Nat} {fs : List Value} {x : Int} (C : Cy_ K X G) (hci : ci < 13) (hck : CK_ ci) (hE : E a = .inr (ci, fs)) (ha : lo ≤ a ∧ a < n) (hw : FW_ K.2.2.1 idx ci k) (hf : FP_ ci k .int) (hlen : k < fs.length) (hd : decode K.1 pc = .ok (.putfield idx, 3))
    (kk : I_ K X G Q cc oo lo n (up_E E a (.inr (ci, fs.set k (iv_i x)))) (pc + 3) lv rest) : I_ K X G Q cc oo lo n E pc lv (iv_i x :: .ref (G.1 + a) :: rest) := by
  intro H locs ls hP hS hl
  obtain ⟨c1, c2, c3, c4, c5, c6, c7, c8, c9, -⟩ := C
  obtain ⟨w1, w2, w3⟩ := hw
  obtain ⟨k1, ⟨ty0, k2⟩, k3⟩ := hck
  have hK := c6.1.1
  have hap := va_apart (own := K.2.2.1) c5 k1 ty0 k2 k3 hK (vw_get hci)
  have hat := hP.2 a ha.1 ha.2
  rw [hE] at hat
  obtain ⟨r, h1, cell, q1, q2, q3, q4⟩ := hat
  have hr : r = (vN_ ci, vT_ ci, nf_c ci) := Option.some.inj (h1.symm.trans (vw_get hci))
  subst hr
  obtain ⟨hSl, hfc, kC, hkC, hkind⟩ := hK.1 ci _ (vw_get hci)
  obtain ⟨cf, kf, fi, f, hi, hsl⟩ := hSl k w2
  have hlay := c5 _ (k1 _ (u_in_lay w2))
  unfold u_lay at hlay
  rw [if_neg (by rw [hf.1]; decide)] at hlay
  have hst := (u_facts hfc hkC (u_lays c5 k1 w2) hi).1
  have h6 := u_store hfc hkC hkind hlay hi hf.2 rfl rfl (v := iv_i x)
  refine W.putK c1 c2 (f := f) ⟨c4, c5 _ w3, ⟨_, _, _, hi⟩, hst⟩ (by rw [q2]; exact h6) q1 q3 (by rw [hsl]; exact k2_hasslot (q4 k w2)) rfl rfl hd fun H' e1 e2 e3 => ?_
  rw [hsl] at e1 ⊢
  exact kk H' _ ls (Is_set hP e2 e3 ⟨_, vw_get hci, t_OB.to (V := updV (vp_V fs) k (iv_i x)) ⟨_, e1, q2, q3, t_set q4 hap w2 _⟩ (fun j _ => vp_updV_set hlen _ j)⟩) (hS.put e2 e3 (by show G.1 + lo ≤ _; omega)) hl
theorem I_getF {a b ci k idx : Nat} {fs : List Value} (C : Cy_ K X G) (hci : ci < 13) (hck : CK_ ci) (hE : E a = .inr (ci, fs)) (ha : lo ≤ a ∧ a < n) (hw : FW_ K.2.2.1 idx ci k) (hv : fs[k]? = some (.ref (G.1 + b))) (hd : decode K.1 pc = .ok (.getfield idx, 3))
    (kk : I_ K X G Q cc oo lo n E (pc + 3) lv (.ref (G.1 + b) :: rest)) : I_ K X G Q cc oo lo n E pc lv (.ref (G.1 + a) :: rest) := by
  intro H locs ls hP hS hl
  obtain ⟨c1, c2, c3, c4, c5, c6, c7, c8, c9, -⟩ := C
  obtain ⟨w1, w2, w3⟩ := hw
  obtain ⟨k1, k2, k3⟩ := hck
  have hat := hP.2 a ha.1 ha.2
  rw [hE] at hat
  have hP1 : va_P G.2.1 vwCl [(G.1 + a, .inr (ci, fs))] H := by
    intro i q hq
    cases i with
    | zero => cases hq; exact hat
    | succ i => simp at hq
  exact va_get c1 c2 c5 k1 c4 c6.1.1 hP1 0 rfl (vw_get hci) k w2 (c5 _ w3) (fun _ h9 => h9) hv hd (kk H locs ls hP hS hl)
theorem I_astq {a b i ci t N : Nat} {vs : List Value} {f : Nat → Option Nat} {Cn : String} (C : Cy_ K X G) (ht : tC_ t Cn) (hci : ci < 13) (hcn : vN_ ci = Cn) (hE : E a = .inl (G.2.2.1 (t + 2), N, .inr (.inr (.inr (.inr f))))) (ha : lo ≤ a ∧ a < n) (hEb : E b = .inr (ci, vs)) (hb : lo ≤ b ∧ b < n) (hi : i < N) (hi2 : (i : Int) < 2147483648) (hd : decode K.1 pc = .ok (.aastore, 1))
    (kk : I_ K X G Q cc oo lo n (up_E E a (.inl (G.2.2.1 (t + 2), N, .inr (.inr (.inr (.inr (va_up f i (some (G.1 + b))))))))) (pc + 1) lv rest) : I_ K X G Q cc oo lo n E pc lv (.ref (G.1 + b) :: iv_i i :: .ref (G.1 + a) :: rest) := by
  intro H locs ls hP hS hl
  obtain ⟨c1, c2, c3, c4, c5, c6, c7, c8, c9, -⟩ := C
  have hok : ok_i (i : Int) := by unfold ok_i; omega
  have hcl : (Int32.ofInt (i : Int)).toNatClampNeg = i := by rw [clamp_I hok (by omega)]; omega
  have hata := hP.2 a ha.1 ha.2
  have hatb := hP.2 b hb.1 hb.2
  rw [hE] at hata
  rw [hEb] at hatb
  obtain ⟨r', hr', cellV, g1, g2, g3, -⟩ := hatb
  have hcls := (c6.1.1.1 ci _ (vw_get hci)).2
  obtain ⟨kA, comp, k1, k2, k3, -⟩ := (c6.1.1.2 (t + 2) _ (ht _)).2
  have hcomp : comp = G.2.1.1 ci := Option.some.inj (k3.symm.trans (by rw [← hcn]; exact hcls.1))
  subst hcomp
  obtain ⟨kC, hkC, -⟩ := hcls.2
  refine W.aast c1 c2 hata (fun q h => by cases h) (fun h => by cases h) k1 k2 rfl hkC ⟨fun q => ?_, by show _ < (arrV _ _ _).slots.size; rw [arrV_size, hcl]; exact hi⟩ g1 (fun q h => by rw [g3] at h; cases h) (by rw [g2]; exact hkC) (by rw [g2]; exact va_assign hcls) rfl rfl hd fun H1 e z oq => ?_
  · rw [show (0 : Int32) = Int32.ofInt 0 from rfl, lt_I hok ok_0] at q; omega
  refine kk H1 _ ls (Is_set hP z oq ?_) (hS.put z oq (by show G.1 + lo ≤ _; omega)) hl
  show H1[G.1 + a]? = some (vp_cell _ _)
  rw [e, vp_cell_q, vp_cell_q, arrV_store, hcl]
  congr 2
  funext q
  by_cases hq : q = i
  · subst hq
    simp [updV, va_up, va_rf]
  · simp [updV, va_up, hq]
end IR
