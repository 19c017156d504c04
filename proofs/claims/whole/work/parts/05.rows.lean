/-! the judgement V_: a frame of a method over the world's memory; a row an instruction -/
def TB_t : List Cond := lw_tbl.filter goodWord
def is_nest : Cond → Bool
  | .methodLinkNest .. => true
  | _ => false
def NW_t : List Cond := lw_tbl.filter is_nest
theorem tb_in {w : Cond} (h : w ∈ lw_tbl) (hg : goodWord w = true) : w ∈ TB_t := List.mem_filter.mpr ⟨h, hg⟩
theorem tb_good {ws : List Cond} (h : ∀ w ∈ ws, w ∈ TB_t) : GoodIn TB_t ws := fun w hw => ⟨h w hw, good_of_word (List.mem_filter.mp (h w hw)).2⟩
def tys_t (ca : Nat → ClassId) : List (ClassId × FieldType) := [(ca 0, .int), (ca 1, .boolean), (ca 2, .object "TongueBook$Card"), (ca 3, .object "TongueBook$Note"), (ca 4, .object "TongueBook$Rule"), (ca 5, .object "TongueBook$Saying"), (ca 6, .object "TongueBook$Sounds"), (ca 7, .object "TongueBook$Shelf"), (ca 8, .long)]
def Kn_ (G : GT_g) (U : State) : Prop := va_K G.2.1 vwCl (tys_t G.2.2.1) U ∧ ∀ w ∈ NW_t, va_Nw w U
def Wd_ (G : GT_g) (M : Mem_m) (U : State) : Prop := ok_m M ∧ va_P G.2.1 vwCl (ws_w G M) U.heap ∧ Kn_ G U
theorem nw_cases {w : Cond} (h : w ∈ NW_t) : ∃ a i x b, w = .methodLinkNest a i x b := by
  have h2 := (List.mem_filter.mp h).2
  cases w <;> first | exact ⟨_, _, _, _, rfl⟩ | (simp [is_nest] at h2)
theorem Kn_warm {G : GT_g} {s U : State} (h : Kn_ G s) (hW : s.WarmedH U.vm) : Kn_ G U := by
  refine ⟨h.1.moved hW.alike, fun w hw => ?_⟩
  obtain ⟨a, i, x, b, rfl⟩ := nw_cases hw
  exact va_Nw.warmM hW (h.2 _ hw)
theorem Kn_calling {G : GT_g} {U : State} {g : JFrame} {mk : MethodId} {a : Array Value} (h : Kn_ G U) : Kn_ G (U.calling g mk a) := by
  refine ⟨va_K.moved (u := U) (U := U.calling g mk a) (Vm.Alike.refl U.vm) h.1, fun w hw => ?_⟩
  obtain ⟨a', i, x, b, rfl⟩ := nw_cases hw
  exact va_Nw.same (u := U) rfl rfl (h.2 _ hw)
theorem Wd_blind {G : GT_g} {M : Mem_m} {av : List Value} : FrameBlind (va_Pc av (Wd_ G M)) := fun a U g mk h => ⟨h.1, h.2.1, h.2.2.1, Kn_calling h.2.2.2⟩
abbrev XT_x : Type := Program × Launch × Env × Room × State × MethodId × Array Value × List Frame × Method × Code × (Nat × Nat) × (Nat → Prop)
abbrev KT_k : Type := ByteArray × Nat × String × Nat
def x_p (X : XT_x) : Program := X.1
def x_l (X : XT_x) : Launch := X.2.1
def x_e (X : XT_x) : Env := X.2.2.1
def x_R (X : XT_x) : Room := X.2.2.2.1
def x_s (X : XT_x) : State := X.2.2.2.2.1
def x_m (X : XT_x) : MethodId := X.2.2.2.2.2.1
def x_a (X : XT_x) : Array Value := X.2.2.2.2.2.2.1
def x_b (X : XT_x) : List Frame := X.2.2.2.2.2.2.2.1
def x_h (X : XT_x) : Method := X.2.2.2.2.2.2.2.2.1
def x_c (X : XT_x) : Code := X.2.2.2.2.2.2.2.2.2.1
def x_n (X : XT_x) : Nat := X.2.2.2.2.2.2.2.2.2.2.1.1
def x_o (X : XT_x) : Nat := X.2.2.2.2.2.2.2.2.2.2.1.2
def x_A (X : XT_x) : Nat → Prop := X.2.2.2.2.2.2.2.2.2.2.2
def Cx_ (K : KT_k) (X : XT_x) (G : GT_g) : Prop :=
  (x_p X).tables.exec = Jvm.exec ∧ (x_c X).code = K.1 ∧ (x_c X).maxLocals = K.2.1 ∧ (x_s X).vm.findClass K.2.2.1 = some (x_m X).cls ∧ (∀ w ∈ TB_t, w.before (x_a X) (x_s X) = true) ∧ Kn_ G (x_s X) ∧ (K.2.2.2 ≤ (x_R X).frames ∧ 40 * K.2.2.2 ≤ (x_R X).locals ∧ x_n X ≤ (x_R X).cells ∧ x_o X ≤ (x_R X).slots) ∧ ∀ q, fr_w G q → x_A X q
def V_ (K : KT_k) (X : XT_x) (G : GT_g) (Q : State → Prop) (M : Mem_m) (pc : Nat) (lv : List (Nat × Value)) (st : List Value) : Prop :=
  ok_m M → ∀ (H : Heap) (locs : List Loc) (ls : Array Slot), va_P G.2.1 vwCl (ws_w G M) H → va_S (x_A X) (x_s X).heap H locs → lv_has ls K.2.1 lv →
    W (x_p X) (x_l X) (x_e X) (x_R X) (x_s X) (x_m X) (x_a X) (x_b X) (x_h X) (x_c X) H locs (x_n X) (x_o X) Q (F0 (x_m X) pc ls st)
def rm_k (k : Nat) : Room := { frames := k, cells := 0, slots := 0, locals := 40 * k }
def Qi_ (G : GT_g) (M : Mem_m) (r : Int) : Array Value → State → Outcome → State → Prop := va_Qi (S := Unit) (fun v _ => v = Int32.ofInt r ∧ ok_i r) (fun _ t => Wd_ G M t) (fr_w G)
def Ql_ (G : GT_g) (M : Mem_m) (r : Int) : Array Value → State → Outcome → State → Prop := va_Ql (S := Unit) (fun v _ => v = Int64.ofInt r) (fun _ t => Wd_ G M t) (fr_w G)
def Qv_ (G : GT_g) (M : Mem_m) : Array Value → State → Outcome → State → Prop := va_Qv (S := Unit) (fun _ => True) (fun _ t => Wd_ G M t) (fr_w G)
def MI_ (l : Launch) (y : MethodName) (K : KT_k) (ret : Option FieldType) (G : GT_g) (M : Mem_m) (av : List Value) (M' : Mem_m) (r : Int) : Prop :=
  Met l y (.code y K.1 K.2.1 ret :: TB_t) (rm_k K.2.2.2) (va_Pc av (Wd_ G M)) (Qi_ G M' r) 0 0 (fr_w G)
def ML_ (l : Launch) (y : MethodName) (K : KT_k) (ret : Option FieldType) (G : GT_g) (M : Mem_m) (av : List Value) (M' : Mem_m) (r : Int) : Prop :=
  Met l y (.code y K.1 K.2.1 ret :: TB_t) (rm_k K.2.2.2) (va_Pc av (Wd_ G M)) (Ql_ G M' r) 0 0 (fr_w G)
def MV_ (l : Launch) (y : MethodName) (K : KT_k) (ret : Option FieldType) (G : GT_g) (M : Mem_m) (av : List Value) (M' : Mem_m) : Prop :=
  Met l y (.code y K.1 K.2.1 ret :: TB_t) (rm_k K.2.2.2) (va_Pc av (Wd_ G M)) (Qv_ G M') 0 0 (fr_w G)
/-- the end of a method's own walk -/
def Fq_ (X : XT_x) (G : GT_g) (Qc : Array Value → State → Outcome → State → Prop) : State → Prop := MQ (x_b X) Qc (x_a X) (x_s X) 0 0 (fr_w G)
def Rx_ (X : XT_x) (G : GT_g) (ret : Option FieldType) : Prop := (x_h X).sig.returnType = ret ∧ (x_h X).locks = false ∧ x_A X = fr_w G ∧ x_n X = 0 ∧ x_o X = 0
/-- from the walk to the contract -/
theorem met_of {l : Launch} {y : MethodName} {K : KT_k} {ret : Option FieldType} {G : GT_g} {M : Mem_m} {av : List Value} {Qc : Array Value → State → Outcome → State → Prop} (hy : plainName y.cls = true) (ho : K.2.2.1 = y.cls) (hsz : (lg_sl av).length ≤ K.2.1)
    (b : ∀ X : XT_x, x_l X = l → Cx_ K X G → Rx_ X G ret → V_ K X G (Fq_ X G Qc) M 0 (lv_args 0 av) []) :
    Met l y (.code y K.1 K.2.1 ret :: TB_t) (rm_k K.2.2.2) (va_Pc av (Wd_ G M)) Qc 0 0 (fr_w G) := by
  refine Met.ofW (cc := K.1) (maxL := K.2.1) (ret := ret) hy rfl ?_
  intro p e s m args below meth c s₁ B hml hv
  obtain ⟨rfl, hM, hP, hK⟩ := hv
  have hts := atoms_spec (ws := .code y K.1 K.2.1 ret :: TB_t) B.pre
  have hown : s.vm.findClass y.cls = some m.cls := findClass_of_methodNamed B.named
  rw [lg_entry_eq]
  have h := b (p, l, e, (headSpec (.code y K.1 K.2.1 ret :: TB_t) (rm_k K.2.2.2)).room, s, m, av.toArray, below, meth, c, (0, 0), fr_w G) rfl
    ⟨B.exec, B.bytes, hml, by rw [ho]; exact hown, fun w hw => hts w (List.mem_cons_of_mem _ hw), hK, ⟨Nat.le_refl _, Nat.le_refl _, Nat.zero_le _, Nat.zero_le _⟩, fun _ h => h⟩
    ⟨B.returns, B.notSynchronized, rfl, rfl, rfl⟩
  exact h hM s.heap [] _ hP va_S.rf (lv_entry av hsz)
section VR
variable {K : KT_k} {X : XT_x} {G : GT_g} {Q : State → Prop} {M : Mem_m} {pc : Nat} {lv : List (Nat × Value)} {rest : List Value}
theorem V_m (k : ok_m M → V_ K X G Q M pc lv rest) : V_ K X G Q M pc lv rest := fun hM => k hM hM
theorem V_pc {pc' : Nat} (h : pc' = pc) (k : V_ K X G Q M pc' lv rest) : V_ K X G Q M pc lv rest := h ▸ k
theorem V_lv {lv' : List (Nat × Value)} (ks : List Nat) (h : lv_pick lv ks = lv') (k : V_ K X G Q M pc lv' rest) : V_ K X G Q M pc lv rest := fun hM H locs ls hP hS hl => k hM H locs ls hP hS (lv_sub hl ks h)

theorem V_iconst {n : Int} (C : Cx_ K X G) (hd : decode K.1 pc = .ok (.iconst n, 1)) (k : V_ K X G Q M (pc + 1) lv (iv_i n :: rest)) : V_ K X G Q M pc lv (rest) := by
  intro hM H locs ls hP hS hl
  refine lv_iconst (v := Int32.ofInt n) C.1 C.2.1 hd rfl ?_
  exact k hM H locs ls hP hS hl
theorem V_bipush {n v : Int} (C : Cx_ K X G) (hd : decode K.1 pc = .ok (.bipush n, 2)) (hv : (Int8.ofInt n).toInt32 = Int32.ofInt v) (k : V_ K X G Q M (pc + 2) lv (iv_i v :: rest)) : V_ K X G Q M pc lv (rest) := by
  intro hM H locs ls hP hS hl
  refine lv_bipush (v := Int32.ofInt v) C.1 C.2.1 hd hv ?_
  exact k hM H locs ls hP hS hl
theorem V_sipush {n v : Int} (C : Cx_ K X G) (hd : decode K.1 pc = .ok (.sipush n, 3)) (hv : (Int16.ofInt n).toInt32 = Int32.ofInt v) (k : V_ K X G Q M (pc + 3) lv (iv_i v :: rest)) : V_ K X G Q M pc lv (rest) := by
  intro hM H locs ls hP hS hl
  refine lv_sipush (v := Int32.ofInt v) C.1 C.2.1 hd hv ?_
  exact k hM H locs ls hP hS hl
theorem V_ldc {idx : Nat} {v : Int} (C : Cx_ K X G) (hd : decode K.1 pc = .ok (.ldc idx, 2)) (hw : Cond.constant K.2.2.1 idx (Int32.ofInt v) ∈ TB_t) (k : V_ K X G Q M (pc + 2) lv (iv_i v :: rest)) : V_ K X G Q M pc lv (rest) := by
  intro hM H locs ls hP hS hl
  refine lv_ldc (own := K.2.2.1) (index := idx) (v := Int32.ofInt v) C.1 C.2.1 C.2.2.2.1 (C.2.2.2.2.1 _ hw) hd ?_
  exact k hM H locs ls hP hS hl
theorem V_ldcw {idx : Nat} {v : Int} (C : Cx_ K X G) (hd : decode K.1 pc = .ok (.ldc_w idx, 3)) (hw : Cond.constant K.2.2.1 idx (Int32.ofInt v) ∈ TB_t) (k : V_ K X G Q M (pc + 3) lv (iv_i v :: rest)) : V_ K X G Q M pc lv (rest) := by
  intro hM H locs ls hP hS hl
  refine lv_ldcw (own := K.2.2.1) (index := idx) (v := Int32.ofInt v) C.1 C.2.1 C.2.2.2.1 (C.2.2.2.2.1 _ hw) hd ?_
  exact k hM H locs ls hP hS hl
theorem V_ldc2 {idx : Nat} {v : Int} (C : Cx_ K X G) (hd : decode K.1 pc = .ok (.ldc2_w idx, 3)) (hw : Cond.constantLong K.2.2.1 idx (Int64.ofInt v) ∈ TB_t) (k : V_ K X G Q M (pc + 3) lv (jv_i v :: rest)) : V_ K X G Q M pc lv (rest) := by
  intro hM H locs ls hP hS hl
  refine lv_ldc2 (own := K.2.2.1) (index := idx) (v := Int64.ofInt v) C.1 C.2.1 C.2.2.2.1 (C.2.2.2.2.1 _ hw) hd ?_
  exact k hM H locs ls hP hS hl
theorem V_lconst0 (C : Cx_ K X G) (hd : decode K.1 pc = .ok (.lconst 0, 1)) (k : V_ K X G Q M (pc + 1) lv (jv_i 0 :: rest)) : V_ K X G Q M pc lv (rest) := by
  intro hM H locs ls hP hS hl
  refine lv_lconst (v := Int64.ofInt 0) C.1 C.2.1 hd rfl ?_
  exact k hM H locs ls hP hS hl
theorem V_lconst1 (C : Cx_ K X G) (hd : decode K.1 pc = .ok (.lconst 1, 1)) (k : V_ K X G Q M (pc + 1) lv (jv_i 1 :: rest)) : V_ K X G Q M pc lv (rest) := by
  intro hM H locs ls hP hS hl
  refine lv_lconst (v := Int64.ofInt 1) C.1 C.2.1 hd rfl ?_
  exact k hM H locs ls hP hS hl
theorem V_iload_n {j i : Nat} {x : Int} {k : Fin 4} (C : Cx_ K X G) (hd : decode K.1 pc = .ok (.iload_n k, 1)) (hi : (k : Nat) = i) (hj : lv[j]? = some (i, iv_i x)) (k : V_ K X G Q M (pc + 1) lv (iv_i x :: rest)) : V_ K X G Q M pc lv (rest) := by
  intro hM H locs ls hP hS hl
  refine lv_iload_n C.1 C.2.1 hd hi (lv_at hl j hj) ?_
  exact k hM H locs ls hP hS hl
theorem V_iload {j i : Nat} {x : Int} (C : Cx_ K X G) (hd : decode K.1 pc = .ok (.iload i, 2)) (hj : lv[j]? = some (i, iv_i x)) (k : V_ K X G Q M (pc + 2) lv (iv_i x :: rest)) : V_ K X G Q M pc lv (rest) := by
  intro hM H locs ls hP hS hl
  refine lv_iload C.1 C.2.1 hd (lv_at hl j hj) ?_
  exact k hM H locs ls hP hS hl
theorem V_aload_n {j i : Nat} {x : Nat} {k : Fin 4} (C : Cx_ K X G) (hd : decode K.1 pc = .ok (.aload_n k, 1)) (hi : (k : Nat) = i) (hj : lv[j]? = some (i, .ref x)) (k : V_ K X G Q M (pc + 1) lv (.ref x :: rest)) : V_ K X G Q M pc lv (rest) := by
  intro hM H locs ls hP hS hl
  refine lv_aload_n C.1 C.2.1 hd hi (lv_at hl j hj) ?_
  exact k hM H locs ls hP hS hl
theorem V_aload {j i : Nat} {x : Nat} (C : Cx_ K X G) (hd : decode K.1 pc = .ok (.aload i, 2)) (hj : lv[j]? = some (i, .ref x)) (k : V_ K X G Q M (pc + 2) lv (.ref x :: rest)) : V_ K X G Q M pc lv (rest) := by
  intro hM H locs ls hP hS hl
  refine lv_aload C.1 C.2.1 hd (lv_at hl j hj) ?_
  exact k hM H locs ls hP hS hl
theorem V_lload_n {j i : Nat} {x : Int} {k : Fin 4} (C : Cx_ K X G) (hd : decode K.1 pc = .ok (.lload_n k, 1)) (hi : (k : Nat) = i) (hj : lv[j]? = some (i, jv_i x)) (k : V_ K X G Q M (pc + 1) lv (jv_i x :: rest)) : V_ K X G Q M pc lv (rest) := by
  intro hM H locs ls hP hS hl
  refine lv_lload_n C.1 C.2.1 hd hi (lv_at hl j hj) ?_
  exact k hM H locs ls hP hS hl
theorem V_lload {j i : Nat} {x : Int} (C : Cx_ K X G) (hd : decode K.1 pc = .ok (.lload i, 2)) (hj : lv[j]? = some (i, jv_i x)) (k : V_ K X G Q M (pc + 2) lv (jv_i x :: rest)) : V_ K X G Q M pc lv (rest) := by
  intro hM H locs ls hP hS hl
  refine lv_lload C.1 C.2.1 hd (lv_at hl j hj) ?_
  exact k hM H locs ls hP hS hl
theorem V_istore_n {i : Nat} {x : Int} {lv' : List (Nat × Value)} {k : Fin 4} (C : Cx_ K X G) (hd : decode K.1 pc = .ok (.istore_n k, 1)) (hi : (k : Nat) = i) (hn : i < K.2.1) (hl' : (i, Value.int (Int32.ofInt x)) :: lv.filter (fun q => !(q.1 == i) && !(q.1 + 1 == i && q.2.category == 2)) = lv') (k : V_ K X G Q M (pc + 1) lv' rest) : V_ K X G Q M pc lv (iv_i x :: rest) := by
  intro hM H locs ls hP hS hl
  refine lv_istore_n C.1 C.2.1 hd hi hl hn hl' fun ls' h' => ?_
  exact k hM H locs ls' hP hS h'
theorem V_istore {i : Nat} {x : Int} {lv' : List (Nat × Value)} (C : Cx_ K X G) (hd : decode K.1 pc = .ok (.istore i, 2)) (hn : i < K.2.1) (hl' : (i, Value.int (Int32.ofInt x)) :: lv.filter (fun q => !(q.1 == i) && !(q.1 + 1 == i && q.2.category == 2)) = lv') (k : V_ K X G Q M (pc + 2) lv' rest) : V_ K X G Q M pc lv (iv_i x :: rest) := by
  intro hM H locs ls hP hS hl
  refine lv_istore C.1 C.2.1 hd hl hn hl' fun ls' h' => ?_
  exact k hM H locs ls' hP hS h'
theorem V_astore_n {i : Nat} {x : Nat} {lv' : List (Nat × Value)} {k : Fin 4} (C : Cx_ K X G) (hd : decode K.1 pc = .ok (.astore_n k, 1)) (hi : (k : Nat) = i) (hn : i < K.2.1) (hl' : (i, Value.ref x) :: lv.filter (fun q => !(q.1 == i) && !(q.1 + 1 == i && q.2.category == 2)) = lv') (k : V_ K X G Q M (pc + 1) lv' rest) : V_ K X G Q M pc lv (.ref x :: rest) := by
  intro hM H locs ls hP hS hl
  refine lv_astore_n C.1 C.2.1 hd hi hl hn hl' fun ls' h' => ?_
  exact k hM H locs ls' hP hS h'
theorem V_astore {i : Nat} {x : Nat} {lv' : List (Nat × Value)} (C : Cx_ K X G) (hd : decode K.1 pc = .ok (.astore i, 2)) (hn : i < K.2.1) (hl' : (i, Value.ref x) :: lv.filter (fun q => !(q.1 == i) && !(q.1 + 1 == i && q.2.category == 2)) = lv') (k : V_ K X G Q M (pc + 2) lv' rest) : V_ K X G Q M pc lv (.ref x :: rest) := by
  intro hM H locs ls hP hS hl
  refine lv_astore C.1 C.2.1 hd hl hn hl' fun ls' h' => ?_
  exact k hM H locs ls' hP hS h'
theorem V_iinc {i j : Nat} {n x : Int} {lv' : List (Nat × Value)} (C : Cx_ K X G) (hd : decode K.1 pc = .ok (.iinc i n, 3)) (hj : lv[j]? = some (i, iv_i x)) (hn : i < K.2.1) (hl' : (i, Value.int (Int32.ofInt (wr_i (x + n)))) :: lv.filter (fun q => !(q.1 == i) && !(q.1 + 1 == i && q.2.category == 2)) = lv') (k : V_ K X G Q M (pc + 3) lv' rest) : V_ K X G Q M pc lv rest := by
  intro hM H locs ls hP hS hl
  refine lv_iinc C.1 C.2.1 hd hl hj (ad_I x n) hn hl' fun ls' h' => ?_
  exact k hM H locs ls' hP hS h'
theorem V_iadd {x y : Int} (C : Cx_ K X G) (hd : decode K.1 pc = .ok (.iadd, 1)) (k : V_ K X G Q M (pc + 1) lv (iv_i (wr_i (x + y)) :: rest)) : V_ K X G Q M pc lv (iv_i y :: iv_i x :: rest) := by
  intro hM H locs ls hP hS hl
  refine lv_iadd C.1 C.2.1 hd ?_
  rw [ad_I]
  exact k hM H locs ls hP hS hl
theorem V_isub {x y : Int} (C : Cx_ K X G) (hd : decode K.1 pc = .ok (.isub, 1)) (k : V_ K X G Q M (pc + 1) lv (iv_i (wr_i (x - y)) :: rest)) : V_ K X G Q M pc lv (iv_i y :: iv_i x :: rest) := by
  intro hM H locs ls hP hS hl
  refine lv_isub C.1 C.2.1 hd ?_
  rw [sb_I]
  exact k hM H locs ls hP hS hl
theorem V_imul {x y : Int} (C : Cx_ K X G) (hd : decode K.1 pc = .ok (.imul, 1)) (k : V_ K X G Q M (pc + 1) lv (iv_i (wr_i (x * y)) :: rest)) : V_ K X G Q M pc lv (iv_i y :: iv_i x :: rest) := by
  intro hM H locs ls hP hS hl
  refine lv_imul C.1 C.2.1 hd ?_
  rw [ml_I]
  exact k hM H locs ls hP hS hl
theorem V_iand {x y : Int} (C : Cx_ K X G) (hd : decode K.1 pc = .ok (.iand, 1)) (k : V_ K X G Q M (pc + 1) lv (iv_i (an_i x y) :: rest)) : V_ K X G Q M pc lv (iv_i y :: iv_i x :: rest) := by
  intro hM H locs ls hP hS hl
  refine lv_iand C.1 C.2.1 hd ?_
  have h := k hM H locs ls hP hS hl
  simp only [iv_i, an_i, of_I] at h
  exact h
theorem V_ior {x y : Int} (C : Cx_ K X G) (hd : decode K.1 pc = .ok (.ior, 1)) (k : V_ K X G Q M (pc + 1) lv (iv_i (or_i x y) :: rest)) : V_ K X G Q M pc lv (iv_i y :: iv_i x :: rest) := by
  intro hM H locs ls hP hS hl
  refine lv_ior C.1 C.2.1 hd ?_
  have h := k hM H locs ls hP hS hl
  simp only [iv_i, or_i, of_I] at h
  exact h
theorem V_ixor {x y : Int} (C : Cx_ K X G) (hd : decode K.1 pc = .ok (.ixor, 1)) (k : V_ K X G Q M (pc + 1) lv (iv_i (xo_i x y) :: rest)) : V_ K X G Q M pc lv (iv_i y :: iv_i x :: rest) := by
  intro hM H locs ls hP hS hl
  refine lv_ixor C.1 C.2.1 hd ?_
  have h := k hM H locs ls hP hS hl
  simp only [iv_i, xo_i, of_I] at h
  exact h
theorem V_ishl {x y : Int} (C : Cx_ K X G) (hd : decode K.1 pc = .ok (.ishl, 1)) (k : V_ K X G Q M (pc + 1) lv (iv_i (sl_i x y) :: rest)) : V_ K X G Q M pc lv (iv_i y :: iv_i x :: rest) := by
  intro hM H locs ls hP hS hl
  refine lv_ishl C.1 C.2.1 hd ?_
  have h := k hM H locs ls hP hS hl
  simp only [iv_i, sl_i, of_I] at h
  exact h
theorem V_ishr {x y : Int} (C : Cx_ K X G) (hd : decode K.1 pc = .ok (.ishr, 1)) (k : V_ K X G Q M (pc + 1) lv (iv_i (sr_i x y) :: rest)) : V_ K X G Q M pc lv (iv_i y :: iv_i x :: rest) := by
  intro hM H locs ls hP hS hl
  refine lv_ishr C.1 C.2.1 hd ?_
  have h := k hM H locs ls hP hS hl
  simp only [iv_i, sr_i, of_I] at h
  exact h
theorem V_iushr {x y : Int} (C : Cx_ K X G) (hd : decode K.1 pc = .ok (.iushr, 1)) (k : V_ K X G Q M (pc + 1) lv (iv_i (us_i x y) :: rest)) : V_ K X G Q M pc lv (iv_i y :: iv_i x :: rest) := by
  intro hM H locs ls hP hS hl
  refine lv_iushr C.1 C.2.1 hd (of_I _).symm ?_
  exact k hM H locs ls hP hS hl
theorem V_idiv {x y : Int} {α : Type} {o : Option α} {z : α} (C : Cx_ K X G) (hd : decode K.1 pc = .ok (.idiv, 1)) (hy : ok_i y) (h : (if y = 0 then none else o) = some z) (k : o = some z → V_ K X G Q M (pc + 1) lv (iv_i (dv_i x y) :: rest)) : V_ K X G Q M pc lv (iv_i y :: iv_i x :: rest) := by
  by_cases h0 : y = 0
  · rw [if_pos h0] at h; cases h
  rw [if_neg h0] at h
  intro hM H locs ls hP hS hl
  refine lv_idiv C.1 C.2.1 hd (fun h1 => h0 ((eq_I hy ok_0).mp h1)) ?_
  have h := k h hM H locs ls hP hS hl
  simp only [iv_i, dv_i, of_I] at h
  exact h
theorem V_irem {x y : Int} {α : Type} {o : Option α} {z : α} (C : Cx_ K X G) (hd : decode K.1 pc = .ok (.irem, 1)) (hy : ok_i y) (h : (if y = 0 then none else o) = some z) (k : o = some z → V_ K X G Q M (pc + 1) lv (iv_i (rm_i x y) :: rest)) : V_ K X G Q M pc lv (iv_i y :: iv_i x :: rest) := by
  by_cases h0 : y = 0
  · rw [if_pos h0] at h; cases h
  rw [if_neg h0] at h
  intro hM H locs ls hP hS hl
  refine lv_irem C.1 C.2.1 hd (fun h1 => h0 ((eq_I hy ok_0).mp h1)) ?_
  have h := k h hM H locs ls hP hS hl
  simp only [iv_i, rm_i, of_I] at h
  exact h
theorem V_i2b {x : Int} (C : Cx_ K X G) (hd : decode K.1 pc = .ok (.i2b, 1)) (k : V_ K X G Q M (pc + 1) lv (iv_i (b8_i x) :: rest)) : V_ K X G Q M pc lv (iv_i x :: rest) := by
  intro hM H locs ls hP hS hl
  refine lv_i2b C.1 C.2.1 hd (of_I _).symm ?_
  exact k hM H locs ls hP hS hl
theorem V_i2s {x : Int} (C : Cx_ K X G) (hd : decode K.1 pc = .ok (.i2s, 1)) (k : V_ K X G Q M (pc + 1) lv (iv_i (b16_i x) :: rest)) : V_ K X G Q M pc lv (iv_i x :: rest) := by
  intro hM H locs ls hP hS hl
  refine lv_i2s C.1 C.2.1 hd (of_I _).symm ?_
  exact k hM H locs ls hP hS hl
theorem V_i2l {x : Int} (C : Cx_ K X G) (hd : decode K.1 pc = .ok (.i2l, 1)) (hx : ok_i x) (k : V_ K X G Q M (pc + 1) lv (jv_i x :: rest)) : V_ K X G Q M pc lv (iv_i x :: rest) := by
  intro hM H locs ls hP hS hl
  refine lv_i2l (v := Int64.ofInt x) C.1 C.2.1 hd ?_ ?_
  · rw [← Int64.ofInt_toInt ((Int32.ofInt x).toInt64), Int32.toInt_toInt64, to_I hx]
  exact k hM H locs ls hP hS hl
theorem V_dup {v : Value} (C : Cx_ K X G) (hd : decode K.1 pc = .ok (.dup, 1)) (hv : v.category = 1) (k : V_ K X G Q M (pc + 1) lv (v :: v :: rest)) : V_ K X G Q M pc lv (v :: rest) := by
  intro hM H locs ls hP hS hl
  refine lv_dup C.1 C.2.1 hd hv ?_
  exact k hM H locs ls hP hS hl
theorem V_dup2 {v u : Value} (C : Cx_ K X G) (hd : decode K.1 pc = .ok (.dup2, 1)) (hv : v.category = 1) (hu : u.category = 1) (k : V_ K X G Q M (pc + 1) lv (v :: u :: v :: u :: rest)) : V_ K X G Q M pc lv (v :: u :: rest) := by
  intro hM H locs ls hP hS hl
  refine lv_dup2_11 C.1 C.2.1 hd hv hu ?_
  exact k hM H locs ls hP hS hl
theorem V_pop {v : Value} (C : Cx_ K X G) (hd : decode K.1 pc = .ok (.pop, 1)) (hv : v.category = 1) (k : V_ K X G Q M (pc + 1) lv rest) : V_ K X G Q M pc lv (v :: rest) := by
  intro hM H locs ls hP hS hl
  refine lv_pop C.1 C.2.1 hd hv ?_
  exact k hM H locs ls hP hS hl
theorem V_goto {off : Int} {tgt : Nat} (C : Cx_ K X G) (hd : decode K.1 pc = .ok (.goto off, 3)) (ht : (pc : Int) + off = (tgt : Int)) (k : V_ K X G Q M tgt lv rest) : V_ K X G Q M pc lv rest := by
  intro hM H locs ls hP hS hl
  refine lv_goto C.1 C.2.1 hd ht ?_
  exact k hM H locs ls hP hS hl
theorem V_icmp_eq {x y : Int} {off : Int} {tgt : Nat} {α : Type} {o1 o2 : Option α} {z : α} (C : Cx_ K X G) (hd : decode K.1 pc = .ok (.if_icmp .eq off, 3)) (ht : (pc : Int) + off = (tgt : Int)) (hx : ok_i x) (hy : ok_i y) (h : (if x = y then o1 else o2) = some z) (k1 : o1 = some z → V_ K X G Q M tgt lv rest) (k2 : o2 = some z → V_ K X G Q M (pc + 3) lv rest) : V_ K X G Q M pc lv (iv_i y :: iv_i x :: rest) := by
  have kk1 : x = y → V_ K X G Q M tgt lv rest := fun hc => k1 (by rw [if_pos hc] at h; exact h)
  have kk2 : ¬ (x = y) → V_ K X G Q M (pc + 3) lv rest := fun hc => k2 (by rw [if_neg hc] at h; exact h)
  intro hM H locs ls hP hS hl
  have e := (eq_I hx hy)
  refine lv_icmp_eq C.1 C.2.1 hd ht (fun hc => ?_) (fun hc => ?_)
  · exact kk1 (e.mp hc) hM H locs ls hP hS hl
  · exact kk2 (fun q => hc (e.mpr q)) hM H locs ls hP hS hl
theorem V_if_eq {x : Int} {off : Int} {tgt : Nat} {α : Type} {o1 o2 : Option α} {z : α} (C : Cx_ K X G) (hd : decode K.1 pc = .ok (.ifCond .eq off, 3)) (ht : (pc : Int) + off = (tgt : Int)) (hx : ok_i x) (h : (if x = 0 then o1 else o2) = some z) (k1 : o1 = some z → V_ K X G Q M tgt lv rest) (k2 : o2 = some z → V_ K X G Q M (pc + 3) lv rest) : V_ K X G Q M pc lv (iv_i x :: rest) := by
  have kk1 : x = 0 → V_ K X G Q M tgt lv rest := fun hc => k1 (by rw [if_pos hc] at h; exact h)
  have kk2 : ¬ (x = 0) → V_ K X G Q M (pc + 3) lv rest := fun hc => k2 (by rw [if_neg hc] at h; exact h)
  intro hM H locs ls hP hS hl
  have e := (eq_I hx ok_0)
  refine lv_if_eq C.1 C.2.1 hd ht (fun hc => ?_) (fun hc => ?_)
  · exact kk1 (e.mp hc) hM H locs ls hP hS hl
  · exact kk2 (fun q => hc (e.mpr q)) hM H locs ls hP hS hl
theorem V_icmp_ne {x y : Int} {off : Int} {tgt : Nat} {α : Type} {o1 o2 : Option α} {z : α} (C : Cx_ K X G) (hd : decode K.1 pc = .ok (.if_icmp .ne off, 3)) (ht : (pc : Int) + off = (tgt : Int)) (hx : ok_i x) (hy : ok_i y) (h : (if x = y then o1 else o2) = some z) (k1 : o1 = some z → V_ K X G Q M (pc + 3) lv rest) (k2 : o2 = some z → V_ K X G Q M tgt lv rest) : V_ K X G Q M pc lv (iv_i y :: iv_i x :: rest) := by
  have kk1 : x = y → V_ K X G Q M (pc + 3) lv rest := fun hc => k1 (by rw [if_pos hc] at h; exact h)
  have kk2 : ¬ (x = y) → V_ K X G Q M tgt lv rest := fun hc => k2 (by rw [if_neg hc] at h; exact h)
  intro hM H locs ls hP hS hl
  have e := (eq_I hx hy)
  refine lv_icmp_ne C.1 C.2.1 hd ht (fun hc => ?_) (fun hc => ?_)
  · exact kk2 (fun q => hc (e.mpr q)) hM H locs ls hP hS hl
  · exact kk1 (e.mp hc) hM H locs ls hP hS hl
theorem V_if_ne {x : Int} {off : Int} {tgt : Nat} {α : Type} {o1 o2 : Option α} {z : α} (C : Cx_ K X G) (hd : decode K.1 pc = .ok (.ifCond .ne off, 3)) (ht : (pc : Int) + off = (tgt : Int)) (hx : ok_i x) (h : (if x = 0 then o1 else o2) = some z) (k1 : o1 = some z → V_ K X G Q M (pc + 3) lv rest) (k2 : o2 = some z → V_ K X G Q M tgt lv rest) : V_ K X G Q M pc lv (iv_i x :: rest) := by
  have kk1 : x = 0 → V_ K X G Q M (pc + 3) lv rest := fun hc => k1 (by rw [if_pos hc] at h; exact h)
  have kk2 : ¬ (x = 0) → V_ K X G Q M tgt lv rest := fun hc => k2 (by rw [if_neg hc] at h; exact h)
  intro hM H locs ls hP hS hl
  have e := (eq_I hx ok_0)
  refine lv_if_ne C.1 C.2.1 hd ht (fun hc => ?_) (fun hc => ?_)
  · exact kk2 (fun q => hc (e.mpr q)) hM H locs ls hP hS hl
  · exact kk1 (e.mp hc) hM H locs ls hP hS hl
theorem V_icmp_lt {x y : Int} {off : Int} {tgt : Nat} {α : Type} {o1 o2 : Option α} {z : α} (C : Cx_ K X G) (hd : decode K.1 pc = .ok (.if_icmp .lt off, 3)) (ht : (pc : Int) + off = (tgt : Int)) (hx : ok_i x) (hy : ok_i y) (h : (if x < y then o1 else o2) = some z) (k1 : o1 = some z → V_ K X G Q M tgt lv rest) (k2 : o2 = some z → V_ K X G Q M (pc + 3) lv rest) : V_ K X G Q M pc lv (iv_i y :: iv_i x :: rest) := by
  have kk1 : x < y → V_ K X G Q M tgt lv rest := fun hc => k1 (by rw [if_pos hc] at h; exact h)
  have kk2 : ¬ (x < y) → V_ K X G Q M (pc + 3) lv rest := fun hc => k2 (by rw [if_neg hc] at h; exact h)
  intro hM H locs ls hP hS hl
  have e := (lt_I hx hy)
  refine lv_icmp_lt C.1 C.2.1 hd ht (fun hc => ?_) (fun hc => ?_)
  · exact kk1 (e.mp hc) hM H locs ls hP hS hl
  · exact kk2 (fun q => hc (e.mpr q)) hM H locs ls hP hS hl
theorem V_if_lt {x : Int} {off : Int} {tgt : Nat} {α : Type} {o1 o2 : Option α} {z : α} (C : Cx_ K X G) (hd : decode K.1 pc = .ok (.ifCond .lt off, 3)) (ht : (pc : Int) + off = (tgt : Int)) (hx : ok_i x) (h : (if x < 0 then o1 else o2) = some z) (k1 : o1 = some z → V_ K X G Q M tgt lv rest) (k2 : o2 = some z → V_ K X G Q M (pc + 3) lv rest) : V_ K X G Q M pc lv (iv_i x :: rest) := by
  have kk1 : x < 0 → V_ K X G Q M tgt lv rest := fun hc => k1 (by rw [if_pos hc] at h; exact h)
  have kk2 : ¬ (x < 0) → V_ K X G Q M (pc + 3) lv rest := fun hc => k2 (by rw [if_neg hc] at h; exact h)
  intro hM H locs ls hP hS hl
  have e := (lt_I hx ok_0)
  refine lv_if_lt C.1 C.2.1 hd ht (fun hc => ?_) (fun hc => ?_)
  · exact kk1 (e.mp hc) hM H locs ls hP hS hl
  · exact kk2 (fun q => hc (e.mpr q)) hM H locs ls hP hS hl
theorem V_icmp_ge {x y : Int} {off : Int} {tgt : Nat} {α : Type} {o1 o2 : Option α} {z : α} (C : Cx_ K X G) (hd : decode K.1 pc = .ok (.if_icmp .ge off, 3)) (ht : (pc : Int) + off = (tgt : Int)) (hx : ok_i x) (hy : ok_i y) (h : (if x < y then o1 else o2) = some z) (k1 : o1 = some z → V_ K X G Q M (pc + 3) lv rest) (k2 : o2 = some z → V_ K X G Q M tgt lv rest) : V_ K X G Q M pc lv (iv_i y :: iv_i x :: rest) := by
  have kk1 : x < y → V_ K X G Q M (pc + 3) lv rest := fun hc => k1 (by rw [if_pos hc] at h; exact h)
  have kk2 : ¬ (x < y) → V_ K X G Q M tgt lv rest := fun hc => k2 (by rw [if_neg hc] at h; exact h)
  intro hM H locs ls hP hS hl
  have e := (lt_I hx hy)
  refine lv_icmp_ge C.1 C.2.1 hd ht (fun hc => ?_) (fun hc => ?_)
  · exact kk2 (fun q => Int32.not_lt.mpr hc (e.mpr q)) hM H locs ls hP hS hl
  · exact kk1 (e.mp (Int32.not_le.mp hc)) hM H locs ls hP hS hl
theorem V_if_ge {x : Int} {off : Int} {tgt : Nat} {α : Type} {o1 o2 : Option α} {z : α} (C : Cx_ K X G) (hd : decode K.1 pc = .ok (.ifCond .ge off, 3)) (ht : (pc : Int) + off = (tgt : Int)) (hx : ok_i x) (h : (if x < 0 then o1 else o2) = some z) (k1 : o1 = some z → V_ K X G Q M (pc + 3) lv rest) (k2 : o2 = some z → V_ K X G Q M tgt lv rest) : V_ K X G Q M pc lv (iv_i x :: rest) := by
  have kk1 : x < 0 → V_ K X G Q M (pc + 3) lv rest := fun hc => k1 (by rw [if_pos hc] at h; exact h)
  have kk2 : ¬ (x < 0) → V_ K X G Q M tgt lv rest := fun hc => k2 (by rw [if_neg hc] at h; exact h)
  intro hM H locs ls hP hS hl
  have e := (lt_I hx ok_0)
  refine lv_if_ge C.1 C.2.1 hd ht (fun hc => ?_) (fun hc => ?_)
  · exact kk2 (fun q => Int32.not_lt.mpr hc (e.mpr q)) hM H locs ls hP hS hl
  · exact kk1 (e.mp (Int32.not_le.mp hc)) hM H locs ls hP hS hl
theorem V_icmp_le {x y : Int} {off : Int} {tgt : Nat} {α : Type} {o1 o2 : Option α} {z : α} (C : Cx_ K X G) (hd : decode K.1 pc = .ok (.if_icmp .le off, 3)) (ht : (pc : Int) + off = (tgt : Int)) (hx : ok_i x) (hy : ok_i y) (h : (if x ≤ y then o1 else o2) = some z) (k1 : o1 = some z → V_ K X G Q M tgt lv rest) (k2 : o2 = some z → V_ K X G Q M (pc + 3) lv rest) : V_ K X G Q M pc lv (iv_i y :: iv_i x :: rest) := by
  have kk1 : x ≤ y → V_ K X G Q M tgt lv rest := fun hc => k1 (by rw [if_pos hc] at h; exact h)
  have kk2 : ¬ (x ≤ y) → V_ K X G Q M (pc + 3) lv rest := fun hc => k2 (by rw [if_neg hc] at h; exact h)
  intro hM H locs ls hP hS hl
  have e := (le_I hx hy)
  refine lv_icmp_le C.1 C.2.1 hd ht (fun hc => ?_) (fun hc => ?_)
  · exact kk1 (e.mp hc) hM H locs ls hP hS hl
  · exact kk2 (fun q => hc (e.mpr q)) hM H locs ls hP hS hl
theorem V_if_le {x : Int} {off : Int} {tgt : Nat} {α : Type} {o1 o2 : Option α} {z : α} (C : Cx_ K X G) (hd : decode K.1 pc = .ok (.ifCond .le off, 3)) (ht : (pc : Int) + off = (tgt : Int)) (hx : ok_i x) (h : (if x ≤ 0 then o1 else o2) = some z) (k1 : o1 = some z → V_ K X G Q M tgt lv rest) (k2 : o2 = some z → V_ K X G Q M (pc + 3) lv rest) : V_ K X G Q M pc lv (iv_i x :: rest) := by
  have kk1 : x ≤ 0 → V_ K X G Q M tgt lv rest := fun hc => k1 (by rw [if_pos hc] at h; exact h)
  have kk2 : ¬ (x ≤ 0) → V_ K X G Q M (pc + 3) lv rest := fun hc => k2 (by rw [if_neg hc] at h; exact h)
  intro hM H locs ls hP hS hl
  have e := (le_I hx ok_0)
  refine lv_if_le C.1 C.2.1 hd ht (fun hc => ?_) (fun hc => ?_)
  · exact kk1 (e.mp hc) hM H locs ls hP hS hl
  · exact kk2 (fun q => hc (e.mpr q)) hM H locs ls hP hS hl
theorem V_icmp_gt {x y : Int} {off : Int} {tgt : Nat} {α : Type} {o1 o2 : Option α} {z : α} (C : Cx_ K X G) (hd : decode K.1 pc = .ok (.if_icmp .gt off, 3)) (ht : (pc : Int) + off = (tgt : Int)) (hx : ok_i x) (hy : ok_i y) (h : (if x ≤ y then o1 else o2) = some z) (k1 : o1 = some z → V_ K X G Q M (pc + 3) lv rest) (k2 : o2 = some z → V_ K X G Q M tgt lv rest) : V_ K X G Q M pc lv (iv_i y :: iv_i x :: rest) := by
  have kk1 : x ≤ y → V_ K X G Q M (pc + 3) lv rest := fun hc => k1 (by rw [if_pos hc] at h; exact h)
  have kk2 : ¬ (x ≤ y) → V_ K X G Q M tgt lv rest := fun hc => k2 (by rw [if_neg hc] at h; exact h)
  intro hM H locs ls hP hS hl
  have e := (le_I hx hy)
  refine lv_icmp_gt C.1 C.2.1 hd ht (fun hc => ?_) (fun hc => ?_)
  · exact kk2 (fun q => Int32.not_le.mpr hc (e.mpr q)) hM H locs ls hP hS hl
  · exact kk1 (e.mp (Int32.not_lt.mp hc)) hM H locs ls hP hS hl
theorem V_if_gt {x : Int} {off : Int} {tgt : Nat} {α : Type} {o1 o2 : Option α} {z : α} (C : Cx_ K X G) (hd : decode K.1 pc = .ok (.ifCond .gt off, 3)) (ht : (pc : Int) + off = (tgt : Int)) (hx : ok_i x) (h : (if x ≤ 0 then o1 else o2) = some z) (k1 : o1 = some z → V_ K X G Q M (pc + 3) lv rest) (k2 : o2 = some z → V_ K X G Q M tgt lv rest) : V_ K X G Q M pc lv (iv_i x :: rest) := by
  have kk1 : x ≤ 0 → V_ K X G Q M (pc + 3) lv rest := fun hc => k1 (by rw [if_pos hc] at h; exact h)
  have kk2 : ¬ (x ≤ 0) → V_ K X G Q M tgt lv rest := fun hc => k2 (by rw [if_neg hc] at h; exact h)
  intro hM H locs ls hP hS hl
  have e := (le_I hx ok_0)
  refine lv_if_gt C.1 C.2.1 hd ht (fun hc => ?_) (fun hc => ?_)
  · exact kk2 (fun q => Int32.not_le.mpr hc (e.mpr q)) hM H locs ls hP hS hl
  · exact kk1 (e.mp (Int32.not_lt.mp hc)) hM H locs ls hP hS hl
end VR
