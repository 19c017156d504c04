/-! rows for calls, copies, compares of longs, switches, ends -/
def Yk_ (y : MethodName) (K : KT_k) (ret : Option FieldType) (n : Nat) : Prop :=
  Cond.code y K.1 K.2.1 ret ∈ TB_t ∧ Cond.initialized y.cls ∈ TB_t ∧ (y.cls ≠ "java/lang/invoke/MethodHandle" ∧ y.cls ≠ "java/lang/invoke/VarHandle") ∧ (parseMethodDescriptor y.desc).map (fun d => d.parameters.length) = some n ∧ K.2.1 ≤ 21
def Yi_ (y : MethodName) : Prop := Cond.instanceMethod y ∈ TB_t ∧ Cond.selects y.cls y y ∈ TB_t
def Ys_ (y : MethodName) : Prop := Cond.static y ∈ TB_t
def L1_ (own : String) (idx : Nat) (y : MethodName) : Prop := Cond.methodLink own idx y ∈ TB_t
def L2_ (own : String) (idx : Nat) (y : MethodName) (host : String) : Prop := Cond.methodLinkNest own idx y host ∈ NW_t
/-- the receiver is an object of the class -/
def vc_ {β : Type} (S : SH_s) (a ci : Nat) (o : Option β) : Option β := if a < S.1 ∧ (S.2.1 a).1 = ci then o else none
section VC
variable {K K' : KT_k} {X : XT_x} {G : GT_g} {Q : State → Prop} {M : Mem_m} {pc : Nat} {lv : List (Nat × Value)} {rest st : List Value} {α : Type} {z : α} {y : MethodName} {ret : Option FieldType} {idx n : Nat} {av : List Value}
theorem c_pay {Ts : List Cond} (C : Cx_ K X G) (h : ∀ w ∈ Ts, w ∈ TB_t) : ∀ w ∈ Ts, ∀ (a' : Array Value) (U : State), (x_s X).WarmedH U.vm → w.before a' U = true := pay_in C.2.2.2.2.1 (tb_good h)
theorem c_B (C : Cx_ K X G) (hy : Yk_ y K' ret n) (hw : L1_ K.2.2.1 idx y) (hlev : K'.2.2.2 + 1 ≤ K.2.2.2) : CallB (x_R X) (x_s X) (x_a X) K.2.2.1 idx y K'.1 K'.2.1 ret (.code y K'.1 K'.2.1 ret :: TB_t) (rm_k K'.2.2.2) 0 0 n := by
  obtain ⟨y1, y2, y3, y4, y5⟩ := hy
  obtain ⟨r1, r2, -, -⟩ := C.2.2.2.2.2.2.1
  refine ⟨rfl, rfl, Nat.le_trans hlev r1, ?_, c_pay C (fun w hw => ?_), List.mem_cons_self, C.2.2.2.2.1 _ y1, C.2.2.2.2.1 _ y2, y3, fun sig hs => ?_, C.2.2.2.2.1 _ hw⟩
  · show 8 + (K'.2.1 + 11) + 40 * K'.2.2.2 ≤ (x_R X).locals
    omega
  · rcases List.mem_cons.mp hw with rfl | hw
    · exact y1
    · exact hw
  · rw [hs] at y4; exact (Option.some.inj y4).symm
theorem c_N {host : String} (C : Cx_ K X G) (hy : Yk_ y K' ret n) (hw : L2_ K.2.2.1 idx y host) (hlev : K'.2.2.2 + 1 ≤ K.2.2.2) : va_CN (x_R X) (x_s X) (x_a X) K.2.2.1 idx y host K'.1 K'.2.1 ret (.code y K'.1 K'.2.1 ret :: TB_t) (rm_k K'.2.2.2) 0 0 n := by
  obtain ⟨y1, y2, y3, y4, y5⟩ := hy
  obtain ⟨r1, r2, -, -⟩ := C.2.2.2.2.2.2.1
  refine ⟨⟨rfl, rfl, Nat.le_trans hlev r1, ?_, c_pay C (fun w hw => ?_), List.mem_cons_self⟩, C.2.2.2.2.1 _ y1, C.2.2.2.2.1 _ y2, y3, fun sig hs => ?_, va_Nw.use rfl (C.2.2.2.2.2.1.2 _ hw)⟩
  · show 8 + (K'.2.1 + 11) + 40 * K'.2.2.2 ≤ (x_R X).locals
    omega
  · rcases List.mem_cons.mp hw with rfl | hw
    · exact y1
    · exact hw
  · rw [hs] at y4; exact (Option.some.inj y4).symm
theorem c_fix (C : Cx_ K X G) : CallFix (x_p X) (x_m X) (x_c X) K.1 K.2.1 (x_s X) (x_a X) TB_t K.2.2.1 := ⟨C.1, C.2.1, C.2.2.1, C.2.2.2.1, C.2.2.2.2.1⟩
theorem c_cells (C : Cx_ K X G) : x_n X + 0 ≤ (x_R X).cells ∧ x_o X + 0 ≤ (x_R X).slots := ⟨C.2.2.2.2.2.2.1.2.2.1, C.2.2.2.2.2.2.1.2.2.2⟩
theorem c_pre {H : Heap} (C : Cx_ K X G) (hM : ok_m M) (hP : va_P G.2.1 vwCl (ws_w G M) H) : PreS (x_s X) H (va_Pc av (Wd_ G M)) av := ⟨Wd_blind, fun U hU hW => ⟨rfl, hM, by rw [hU]; exact hP, Kn_warm C.2.2.2.2.2.1 hW⟩⟩
theorem c_recv {H : Heap} {a ci : Nat} (C : Cx_ K X G) (hP : va_P G.2.1 vwCl (ws_w G M) H) (hci : ci < 13) (h1 : a < G.2.2.2.1) (h2 : (G.2.2.2.2.1 a).1 = ci) : ∃ cell : Cell, H[G.1 + a]? = some cell ∧ cell.vm.isStatics = false ∧ (x_s X).vm.findClass (vN_ ci) = some cell.cls := by
  have he := ws_get (G := G) (M := M) h1
  rw [cE_obj h2 hci] at he
  exact va_recv C.2.2.2.2.2.1.1 hP (vw_get hci) he
theorem c_frA (C : Cx_ K X G) : ∀ q, fr_w G q → x_A X q := C.2.2.2.2.2.2.2
theorem c_fini {M' : Mem_m} {r : Int} {H : Heap} {locs : List Loc} {ls : Array Slot} (C : Cx_ K X G) (hl : lv_has ls K.2.1 lv) (hS : va_S (x_A X) (x_s X).heap H locs) {a : Array Value}
    (hr : va_Run (x_p X) (x_l X) (x_e X) (x_R X) (x_s X) (x_m X) (x_a X) (x_b X) (x_h X) (x_c X) H locs (x_n X) (x_o X) 0 0 (F0 (x_m X) pc ls st) rest (Qi_ G M' r a) (fr_w G))
    (kk : ok_i r → V_ K X G Q M' (pc + 3) lv (iv_i r :: rest)) : W (x_p X) (x_l X) (x_e X) (x_R X) (x_s X) (x_m X) (x_a X) (x_b X) (x_h X) (x_c X) H locs (x_n X) (x_o X) Q (F0 (x_m X) pc ls st) := by
  refine va_calli hr hS (fun q _ h => c_frA C q h) (c_frA C) (fun r1 u t H1 locs1 ht hvm hw hB hz hk hS1 => ?_)
  obtain ⟨rfl, hok⟩ := hw
  obtain ⟨hM1, hP1, hK1⟩ := hB
  rw [ht] at hP1
  exact kk hok hM1 H1 locs1 ls hP1 hS1 hl
theorem c_finv {M' : Mem_m} {H : Heap} {locs : List Loc} {ls : Array Slot} (C : Cx_ K X G) (hl : lv_has ls K.2.1 lv) (hS : va_S (x_A X) (x_s X).heap H locs) {a : Array Value}
    (hr : va_Run (x_p X) (x_l X) (x_e X) (x_R X) (x_s X) (x_m X) (x_a X) (x_b X) (x_h X) (x_c X) H locs (x_n X) (x_o X) 0 0 (F0 (x_m X) pc ls st) rest (Qv_ G M' a) (fr_w G))
    (kk : V_ K X G Q M' (pc + 3) lv rest) : W (x_p X) (x_l X) (x_e X) (x_R X) (x_s X) (x_m X) (x_a X) (x_b X) (x_h X) (x_c X) H locs (x_n X) (x_o X) Q (F0 (x_m X) pc ls st) := by
  refine va_callv hr hS (fun q _ h => c_frA C q h) (c_frA C) (fun u t H1 locs1 ht hvm hw hB hz hk hS1 => ?_)
  obtain ⟨hM1, hP1, hK1⟩ := hB
  rw [ht] at hP1
  exact kk hM1 H1 locs1 ls hP1 hS1 hl
theorem c_finl {M' : Mem_m} {r : Int} {H : Heap} {locs : List Loc} {ls : Array Slot} (C : Cx_ K X G) (hl : lv_has ls K.2.1 lv) (hS : va_S (x_A X) (x_s X).heap H locs) {a : Array Value}
    (hr : va_Run (x_p X) (x_l X) (x_e X) (x_R X) (x_s X) (x_m X) (x_a X) (x_b X) (x_h X) (x_c X) H locs (x_n X) (x_o X) 0 0 (F0 (x_m X) pc ls st) rest (Ql_ G M' r a) (fr_w G))
    (kk : V_ K X G Q M' (pc + 3) lv (jv_i r :: rest)) : W (x_p X) (x_l X) (x_e X) (x_R X) (x_s X) (x_m X) (x_a X) (x_b X) (x_h X) (x_c X) H locs (x_n X) (x_o X) Q (F0 (x_m X) pc ls st) := by
  refine va_calll hr hS (fun q _ h => c_frA C q h) (c_frA C) (fun r1 u t H1 locs1 ht hvm hw hB hz hk hS1 => ?_)
  subst hw
  obtain ⟨hM1, hP1, hK1⟩ := hB
  rw [ht] at hP1
  exact kk hM1 H1 locs1 ls hP1 hS1 hl
theorem V_callVri {o : Option Int} {F : Int → Option α} {a ci : Nat} (hyi : Yi_ y) (hci : ci < 13) (hcn : vN_ ci = y.cls) (C : Cx_ K X G) (hy : Yk_ y K' ret n) (hw : L1_ K.2.2.1 idx y) (hlev : K'.2.2.2 + 1 ≤ K.2.2.2) (hd : decode K.1 pc = .ok (.invokevirtual idx, 3)) (hM : ∀ v, o = some v → MI_ (x_l X) y K' ret G M (Value.ref (G.1 + a) :: av) M v) (hn : av.length = n) (hst : st = av.reverse ++ .ref (G.1 + a) :: rest) (hcat : (rest.map fun v => v.category).sum ≤ 8) (h : (vc_ G.2.2.2 a ci o).bind F = some z)
    (kk : ∀ v, ok_i v → F v = some z → V_ K X G Q M (pc + 3) lv (iv_i v :: rest)) : V_ K X G Q M pc lv st := by
  unfold vc_ at h
  split at h
  case isFalse => cases h
  rename_i hg
  obtain ⟨h1, h2⟩ := hg
  cases ho : o with
  | none => rw [ho] at h; cases h
  | some v =>
    rw [ho] at h
    intro hM0 H locs ls hP hS hl
    exact c_fini C hl hS (va_runV (As := av) (rest := rest) (C := y.cls) (c_fix C) (hM v ho) ⟨c_B C hy hw hlev, C.2.2.2.2.1 _ hyi.1, C.2.2.2.2.1 _ hyi.2⟩ ⟨Wd_blind, by rw [← hcn]; exact c_recv C hP hci h1 h2, (c_pre (av := .ref (G.1 + a) :: av) C hM0 hP).2⟩ rfl hn hl.1 hst (lv_room hcat) hd (c_cells C)) (fun hk => kk v hk h)
theorem V_callVwi {o : Option (Mem_m × Int)} {F : (Mem_m × Int) → Option α} {a ci : Nat} (hyi : Yi_ y) (hci : ci < 13) (hcn : vN_ ci = y.cls) (C : Cx_ K X G) (hy : Yk_ y K' ret n) (hw : L1_ K.2.2.1 idx y) (hlev : K'.2.2.2 + 1 ≤ K.2.2.2) (hd : decode K.1 pc = .ok (.invokevirtual idx, 3)) (hM : ∀ v, o = some v → MI_ (x_l X) y K' ret G M (Value.ref (G.1 + a) :: av) v.1 v.2) (hn : av.length = n) (hst : st = av.reverse ++ .ref (G.1 + a) :: rest) (hcat : (rest.map fun v => v.category).sum ≤ 8) (h : (vc_ G.2.2.2 a ci o).bind F = some z)
    (kk : ∀ v : Mem_m × Int, ok_i v.2 → F v = some z → V_ K X G Q v.1 (pc + 3) lv (iv_i v.2 :: rest)) : V_ K X G Q M pc lv st := by
  unfold vc_ at h
  split at h
  case isFalse => cases h
  rename_i hg
  obtain ⟨h1, h2⟩ := hg
  cases ho : o with
  | none => rw [ho] at h; cases h
  | some v =>
    rw [ho] at h
    intro hM0 H locs ls hP hS hl
    exact c_fini C hl hS (va_runV (As := av) (rest := rest) (C := y.cls) (c_fix C) (hM v ho) ⟨c_B C hy hw hlev, C.2.2.2.2.1 _ hyi.1, C.2.2.2.2.1 _ hyi.2⟩ ⟨Wd_blind, by rw [← hcn]; exact c_recv C hP hci h1 h2, (c_pre (av := .ref (G.1 + a) :: av) C hM0 hP).2⟩ rfl hn hl.1 hst (lv_room hcat) hd (c_cells C)) (fun hk => kk v hk h)
theorem V_callVwv {o : Option Mem_m} {F : Mem_m → Option α} {a ci : Nat} (hyi : Yi_ y) (hci : ci < 13) (hcn : vN_ ci = y.cls) (C : Cx_ K X G) (hy : Yk_ y K' ret n) (hw : L1_ K.2.2.1 idx y) (hlev : K'.2.2.2 + 1 ≤ K.2.2.2) (hd : decode K.1 pc = .ok (.invokevirtual idx, 3)) (hM : ∀ v, o = some v → MV_ (x_l X) y K' ret G M (Value.ref (G.1 + a) :: av) v) (hn : av.length = n) (hst : st = av.reverse ++ .ref (G.1 + a) :: rest) (hcat : (rest.map fun v => v.category).sum ≤ 8) (h : (vc_ G.2.2.2 a ci o).bind F = some z)
    (kk : ∀ v : Mem_m, F v = some z → V_ K X G Q v (pc + 3) lv rest) : V_ K X G Q M pc lv st := by
  unfold vc_ at h
  split at h
  case isFalse => cases h
  rename_i hg
  obtain ⟨h1, h2⟩ := hg
  cases ho : o with
  | none => rw [ho] at h; cases h
  | some v =>
    rw [ho] at h
    intro hM0 H locs ls hP hS hl
    exact c_finv C hl hS (va_runV (As := av) (rest := rest) (C := y.cls) (c_fix C) (hM v ho) ⟨c_B C hy hw hlev, C.2.2.2.2.1 _ hyi.1, C.2.2.2.2.1 _ hyi.2⟩ ⟨Wd_blind, by rw [← hcn]; exact c_recv C hP hci h1 h2, (c_pre (av := .ref (G.1 + a) :: av) C hM0 hP).2⟩ rfl hn hl.1 hst (lv_room hcat) hd (c_cells C)) (kk v h)
theorem V_callVrl {o : Option Int} {F : Int → Option α} {a ci : Nat} (hyi : Yi_ y) (hci : ci < 13) (hcn : vN_ ci = y.cls) (C : Cx_ K X G) (hy : Yk_ y K' ret n) (hw : L1_ K.2.2.1 idx y) (hlev : K'.2.2.2 + 1 ≤ K.2.2.2) (hd : decode K.1 pc = .ok (.invokevirtual idx, 3)) (hM : ∀ v, o = some v → ML_ (x_l X) y K' ret G M (Value.ref (G.1 + a) :: av) M v) (hn : av.length = n) (hst : st = av.reverse ++ .ref (G.1 + a) :: rest) (hcat : (rest.map fun v => v.category).sum ≤ 8) (h : (vc_ G.2.2.2 a ci o).bind F = some z)
    (kk : ∀ v, F v = some z → V_ K X G Q M (pc + 3) lv (jv_i v :: rest)) : V_ K X G Q M pc lv st := by
  unfold vc_ at h
  split at h
  case isFalse => cases h
  rename_i hg
  obtain ⟨h1, h2⟩ := hg
  cases ho : o with
  | none => rw [ho] at h; cases h
  | some v =>
    rw [ho] at h
    intro hM0 H locs ls hP hS hl
    exact c_finl C hl hS (va_runV (As := av) (rest := rest) (C := y.cls) (c_fix C) (hM v ho) ⟨c_B C hy hw hlev, C.2.2.2.2.1 _ hyi.1, C.2.2.2.2.1 _ hyi.2⟩ ⟨Wd_blind, by rw [← hcn]; exact c_recv C hP hci h1 h2, (c_pre (av := .ref (G.1 + a) :: av) C hM0 hP).2⟩ rfl hn hl.1 hst (lv_room hcat) hd (c_cells C)) (kk v h)
theorem V_callSri {o : Option Int} {F : Int → Option α} (hys : Ys_ y) (C : Cx_ K X G) (hy : Yk_ y K' ret n) (hw : L1_ K.2.2.1 idx y) (hlev : K'.2.2.2 + 1 ≤ K.2.2.2) (hd : decode K.1 pc = .ok (.invokestatic idx, 3)) (hM : ∀ v, o = some v → MI_ (x_l X) y K' ret G M av M v) (hn : av.length = n) (hst : st = av.reverse ++ rest) (hcat : (rest.map fun v => v.category).sum ≤ 8) (h : (o).bind F = some z)
    (kk : ∀ v, ok_i v → F v = some z → V_ K X G Q M (pc + 3) lv (iv_i v :: rest)) : V_ K X G Q M pc lv st := by
  cases ho : o with
  | none => rw [ho] at h; cases h
  | some v =>
    rw [ho] at h
    intro hM0 H locs ls hP hS hl
    exact c_fini C hl hS (va_runS (As := av) (rest := rest) (c_fix C) (hM v ho) ⟨c_B C hy hw hlev, C.2.2.2.2.1 _ hys⟩ (c_pre C hM0 hP) rfl hn hl.1 hst (lv_room hcat) hd (c_cells C)) (fun hk => kk v hk h)
theorem V_callSwi {o : Option (Mem_m × Int)} {F : (Mem_m × Int) → Option α} (hys : Ys_ y) (C : Cx_ K X G) (hy : Yk_ y K' ret n) (hw : L1_ K.2.2.1 idx y) (hlev : K'.2.2.2 + 1 ≤ K.2.2.2) (hd : decode K.1 pc = .ok (.invokestatic idx, 3)) (hM : ∀ v, o = some v → MI_ (x_l X) y K' ret G M av v.1 v.2) (hn : av.length = n) (hst : st = av.reverse ++ rest) (hcat : (rest.map fun v => v.category).sum ≤ 8) (h : (o).bind F = some z)
    (kk : ∀ v : Mem_m × Int, ok_i v.2 → F v = some z → V_ K X G Q v.1 (pc + 3) lv (iv_i v.2 :: rest)) : V_ K X G Q M pc lv st := by
  cases ho : o with
  | none => rw [ho] at h; cases h
  | some v =>
    rw [ho] at h
    intro hM0 H locs ls hP hS hl
    exact c_fini C hl hS (va_runS (As := av) (rest := rest) (c_fix C) (hM v ho) ⟨c_B C hy hw hlev, C.2.2.2.2.1 _ hys⟩ (c_pre C hM0 hP) rfl hn hl.1 hst (lv_room hcat) hd (c_cells C)) (fun hk => kk v hk h)
theorem V_callSwv {o : Option Mem_m} {F : Mem_m → Option α} (hys : Ys_ y) (C : Cx_ K X G) (hy : Yk_ y K' ret n) (hw : L1_ K.2.2.1 idx y) (hlev : K'.2.2.2 + 1 ≤ K.2.2.2) (hd : decode K.1 pc = .ok (.invokestatic idx, 3)) (hM : ∀ v, o = some v → MV_ (x_l X) y K' ret G M av v) (hn : av.length = n) (hst : st = av.reverse ++ rest) (hcat : (rest.map fun v => v.category).sum ≤ 8) (h : (o).bind F = some z)
    (kk : ∀ v : Mem_m, F v = some z → V_ K X G Q v (pc + 3) lv rest) : V_ K X G Q M pc lv st := by
  cases ho : o with
  | none => rw [ho] at h; cases h
  | some v =>
    rw [ho] at h
    intro hM0 H locs ls hP hS hl
    exact c_finv C hl hS (va_runS (As := av) (rest := rest) (c_fix C) (hM v ho) ⟨c_B C hy hw hlev, C.2.2.2.2.1 _ hys⟩ (c_pre C hM0 hP) rfl hn hl.1 hst (lv_room hcat) hd (c_cells C)) (kk v h)
theorem V_callSrl {o : Option Int} {F : Int → Option α} (hys : Ys_ y) (C : Cx_ K X G) (hy : Yk_ y K' ret n) (hw : L1_ K.2.2.1 idx y) (hlev : K'.2.2.2 + 1 ≤ K.2.2.2) (hd : decode K.1 pc = .ok (.invokestatic idx, 3)) (hM : ∀ v, o = some v → ML_ (x_l X) y K' ret G M av M v) (hn : av.length = n) (hst : st = av.reverse ++ rest) (hcat : (rest.map fun v => v.category).sum ≤ 8) (h : (o).bind F = some z)
    (kk : ∀ v, F v = some z → V_ K X G Q M (pc + 3) lv (jv_i v :: rest)) : V_ K X G Q M pc lv st := by
  cases ho : o with
  | none => rw [ho] at h; cases h
  | some v =>
    rw [ho] at h
    intro hM0 H locs ls hP hS hl
    exact c_finl C hl hS (va_runS (As := av) (rest := rest) (c_fix C) (hM v ho) ⟨c_B C hy hw hlev, C.2.2.2.2.1 _ hys⟩ (c_pre C hM0 hP) rfl hn hl.1 hst (lv_room hcat) hd (c_cells C)) (kk v h)
theorem V_callNri {o : Option Int} {F : Int → Option α} (hys : Ys_ y) (C : Cx_ K X G) (hy : Yk_ y K' ret n) {host : String} (hw : L2_ K.2.2.1 idx y host) (hlev : K'.2.2.2 + 1 ≤ K.2.2.2) (hd : decode K.1 pc = .ok (.invokestatic idx, 3)) (hM : ∀ v, o = some v → MI_ (x_l X) y K' ret G M av M v) (hn : av.length = n) (hst : st = av.reverse ++ rest) (hcat : (rest.map fun v => v.category).sum ≤ 8) (h : (o).bind F = some z)
    (kk : ∀ v, ok_i v → F v = some z → V_ K X G Q M (pc + 3) lv (iv_i v :: rest)) : V_ K X G Q M pc lv st := by
  cases ho : o with
  | none => rw [ho] at h; cases h
  | some v =>
    rw [ho] at h
    intro hM0 H locs ls hP hS hl
    exact c_fini C hl hS (va_runSN (As := av) (rest := rest) (c_fix C) (hM v ho) ⟨c_N C hy hw hlev, C.2.2.2.2.1 _ hys, trivial⟩ (c_pre C hM0 hP) rfl hn hl.1 hst (lv_room hcat) hd (c_cells C)) (fun hk => kk v hk h)
theorem V_callNwi {o : Option (Mem_m × Int)} {F : (Mem_m × Int) → Option α} (hys : Ys_ y) (C : Cx_ K X G) (hy : Yk_ y K' ret n) {host : String} (hw : L2_ K.2.2.1 idx y host) (hlev : K'.2.2.2 + 1 ≤ K.2.2.2) (hd : decode K.1 pc = .ok (.invokestatic idx, 3)) (hM : ∀ v, o = some v → MI_ (x_l X) y K' ret G M av v.1 v.2) (hn : av.length = n) (hst : st = av.reverse ++ rest) (hcat : (rest.map fun v => v.category).sum ≤ 8) (h : (o).bind F = some z)
    (kk : ∀ v : Mem_m × Int, ok_i v.2 → F v = some z → V_ K X G Q v.1 (pc + 3) lv (iv_i v.2 :: rest)) : V_ K X G Q M pc lv st := by
  cases ho : o with
  | none => rw [ho] at h; cases h
  | some v =>
    rw [ho] at h
    intro hM0 H locs ls hP hS hl
    exact c_fini C hl hS (va_runSN (As := av) (rest := rest) (c_fix C) (hM v ho) ⟨c_N C hy hw hlev, C.2.2.2.2.1 _ hys, trivial⟩ (c_pre C hM0 hP) rfl hn hl.1 hst (lv_room hcat) hd (c_cells C)) (fun hk => kk v hk h)
theorem V_callNwv {o : Option Mem_m} {F : Mem_m → Option α} (hys : Ys_ y) (C : Cx_ K X G) (hy : Yk_ y K' ret n) {host : String} (hw : L2_ K.2.2.1 idx y host) (hlev : K'.2.2.2 + 1 ≤ K.2.2.2) (hd : decode K.1 pc = .ok (.invokestatic idx, 3)) (hM : ∀ v, o = some v → MV_ (x_l X) y K' ret G M av v) (hn : av.length = n) (hst : st = av.reverse ++ rest) (hcat : (rest.map fun v => v.category).sum ≤ 8) (h : (o).bind F = some z)
    (kk : ∀ v : Mem_m, F v = some z → V_ K X G Q v (pc + 3) lv rest) : V_ K X G Q M pc lv st := by
  cases ho : o with
  | none => rw [ho] at h; cases h
  | some v =>
    rw [ho] at h
    intro hM0 H locs ls hP hS hl
    exact c_finv C hl hS (va_runSN (As := av) (rest := rest) (c_fix C) (hM v ho) ⟨c_N C hy hw hlev, C.2.2.2.2.1 _ hys, trivial⟩ (c_pre C hM0 hP) rfl hn hl.1 hst (lv_room hcat) hd (c_cells C)) (kk v h)
theorem V_callNrl {o : Option Int} {F : Int → Option α} (hys : Ys_ y) (C : Cx_ K X G) (hy : Yk_ y K' ret n) {host : String} (hw : L2_ K.2.2.1 idx y host) (hlev : K'.2.2.2 + 1 ≤ K.2.2.2) (hd : decode K.1 pc = .ok (.invokestatic idx, 3)) (hM : ∀ v, o = some v → ML_ (x_l X) y K' ret G M av M v) (hn : av.length = n) (hst : st = av.reverse ++ rest) (hcat : (rest.map fun v => v.category).sum ≤ 8) (h : (o).bind F = some z)
    (kk : ∀ v, F v = some z → V_ K X G Q M (pc + 3) lv (jv_i v :: rest)) : V_ K X G Q M pc lv st := by
  cases ho : o with
  | none => rw [ho] at h; cases h
  | some v =>
    rw [ho] at h
    intro hM0 H locs ls hP hS hl
    exact c_finl C hl hS (va_runSN (As := av) (rest := rest) (c_fix C) (hM v ho) ⟨c_N C hy hw hlev, C.2.2.2.2.1 _ hys, trivial⟩ (c_pre C hM0 hP) rfl hn hl.1 hst (lv_room hcat) hd (c_cells C)) (kk v h)
end VC
section VE
variable {K : KT_k} {X : XT_x} {G : GT_g} {Q : State → Prop} {M : Mem_m} {pc : Nat} {lv : List (Nat × Value)} {rest st : List Value} {α : Type} {z : α}
theorem V_copy {a b idx : Nat} {i j n : Int} {F : Mem_m → Option α} (C : Cx_ K X G) (hw : L1_ K.2.2.1 idx arraycopyName) (hy : Cond.native arraycopyName ∈ TB_t ∧ Cond.static arraycopyName ∈ TB_t ∧ Cond.initialized "java/lang/System" ∈ TB_t) (hlev : 1 ≤ K.2.2.2) (hcat : (rest.map fun v => v.category).sum ≤ 8) (hd : decode K.1 pc = .ok (.invokestatic idx, 3)) (hi : ok_i i) (hj : ok_i j) (hn : ok_i n)
    (h : (cp_ G.2.2.2 M a i b j n).bind F = some z) (kk : ∀ M', F M' = some z → V_ K X G Q M' (pc + 3) lv rest) : V_ K X G Q M pc lv (iv_i n :: iv_i j :: .ref (G.1 + b) :: iv_i i :: .ref (G.1 + a) :: rest) := by
  intro hM H locs ls hP hS hl
  unfold cp_ at h
  split at h
  case isFalse => cases h
  case isTrue hc =>
    obtain ⟨a1, b1, a2, b2, i0, j0, n0, in1, jn1⟩ := hc
    have ea := ws_get (G := G) (M := M) a1
    have eb := ws_get (G := G) (M := M) b1
    rw [cE_int a2] at ea
    rw [cE_int b2] at eb
    have ng : ∀ x : Int, ok_i x → 0 ≤ x → ¬ Int32.ofInt x < 0 := fun x hx h0 hq => by
      rw [show (0 : Int32) = Int32.ofInt 0 from rfl, lt_I hx ok_0] at hq
      omega
    obtain ⟨r1, r2, -, -⟩ := C.2.2.2.2.2.2.1
    refine va_copyi C.1 C.2.1 (by rw [C.2.2.1, hl.1]) C.2.2.2.1 (C.2.2.2.2.1 _ hw) (C.2.2.2.2.1 _ hy.1) (C.2.2.2.2.1 _ hy.2.1) (C.2.2.2.2.1 _ hy.2.2) C.2.2.2.2.2.1.1 hP (S_fr C) hS a b 0 0 ea eb rfl rfl rfl (ng i hi i0) (ng j hj j0) (ng n hn n0) ?_ ?_ (fun _ _ => rfl) (Nat.le_trans hlev r1) ?_ hd fun H1 locs1 hP1 _ hS1 => ?_
    · rw [clamp_I hi i0, clamp_I hn n0]; omega
    · rw [clamp_I hj j0, clamp_I hn n0]; omega
    · have e5 : nativeFrameWords "java/lang/System" "arraycopy" 5 ≤ 12 := by decide +kernel
      omega
    have he2 : cE_c G (cpM_ M a i.toNat b j.toNat n.toNat) b = .inl (G.2.2.1 0, (G.2.2.2.2.1 b).2, .inl (va_cpy (fun k => Int32.ofInt (M a k)) (fun k => Int32.ofInt (M b k)) (Int32.ofInt i).toNatClampNeg (Int32.ofInt j).toNatClampNeg (Int32.ofInt n).toNatClampNeg)) := by
      rw [cE_int b2, clamp_I hi i0, clamp_I hj j0, clamp_I hn n0]
      congr 4
      funext k
      unfold va_cpy cpM_
      rw [if_pos rfl]
      dsimp only
      split <;> rfl
    rw [ws_set b1 (fun c hc => by unfold cpM_; rw [if_neg hc]) he2] at hP1
    exact kk _ h (ok_cp hM) H1 locs1 ls hP1 hS1 hl
theorem V_eqs {x k : Int} {o1 o2 : Option α} (h : (if x = k then o1 else o2) = some z) (k1 : x = k → o1 = some z → V_ K X G Q M pc lv st) (k2 : ¬ x = k → o2 = some z → V_ K X G Q M pc lv st) : V_ K X G Q M pc lv st := by
  by_cases hc : x = k
  · rw [if_pos hc] at h; exact k1 hc h
  · rw [if_neg hc] at h; exact k2 hc h
theorem V_tabIn {x : Int} {dflt lo hi off : Int} {offs : Array Int} {len tgt : Nat} (C : Cx_ K X G) (hd : decode K.1 pc = .ok (.tableswitch dflt lo hi offs, len)) (hx : ok_i x) (h1 : ¬ x < lo) (h2 : ¬ hi < x) (ho : offs[(x - lo).toNat]? = some off) (ht : (pc : Int) + off = (tgt : Int)) (k : V_ K X G Q M tgt lv rest) : V_ K X G Q M pc lv (iv_i x :: rest) := by
  intro hM H locs ls hP hS hl
  exact lv_tableIn C.1 C.2.1 hd (by rw [to_I hx]; exact h1) (by rw [to_I hx]; exact h2) (by rw [to_I hx]; exact ho) ht (k hM H locs ls hP hS hl)
theorem V_tabOut {x : Int} {dflt lo hi : Int} {offs : Array Int} {len tgt : Nat} (C : Cx_ K X G) (hd : decode K.1 pc = .ok (.tableswitch dflt lo hi offs, len)) (hx : ok_i x) (h1 : x < lo ∨ hi < x) (ht : (pc : Int) + dflt = (tgt : Int)) (k : V_ K X G Q M tgt lv rest) : V_ K X G Q M pc lv (iv_i x :: rest) := by
  intro hM H locs ls hP hS hl
  exact lv_tableOut C.1 C.2.1 hd (by rw [to_I hx]; exact h1) ht (k hM H locs ls hP hS hl)
theorem to_J {x : Int} (h : ok_i x) : (Int64.ofInt x).toInt = x := by
  unfold ok_i at h
  exact Int64.toInt_ofInt_of_le (by omega) (by omega)
theorem lg_I {x y : Int} (hx : ok_i x) (hy : ok_i y) : lg_cmp (Int64.ofInt x) (Int64.ofInt y) = Int32.ofInt (if x < y then -1 else if y < x then 1 else 0) := by
  unfold lg_cmp
  have e1 : Int64.ofInt x < Int64.ofInt y ↔ x < y := by rw [Int64.lt_iff_toInt_lt, to_J hx, to_J hy]
  have e2 : Int64.ofInt y < Int64.ofInt x ↔ y < x := by rw [Int64.lt_iff_toInt_lt, to_J hx, to_J hy]
  have e3 : Int64.ofInt x = Int64.ofInt y ↔ x = y := ⟨fun h => by have := congrArg Int64.toInt h; rwa [to_J hx, to_J hy] at this, fun h => by rw [h]⟩
  by_cases h1 : x < y
  · rw [if_neg (fun q => by have := e2.mp q; omega), if_neg (fun q => by have := e3.mp q; omega), if_pos h1]; rfl
  · by_cases h2 : y < x
    · rw [if_pos (e2.mpr h2), if_neg h1, if_pos h2]; rfl
    · rw [if_neg (fun q => h2 (e2.mp q)), if_pos (e3.mpr (by omega)), if_neg h1, if_neg h2]; rfl
theorem V_lcmp {x y : Int} (C : Cx_ K X G) (hd : decode K.1 pc = .ok (.lcmp, 1)) (hx : ok_i x) (hy : ok_i y) (k : V_ K X G Q M (pc + 1) lv (iv_i (if x < y then -1 else if y < x then 1 else 0) :: rest)) : V_ K X G Q M pc lv (jv_i y :: jv_i x :: rest) := by
  intro hM H locs ls hP hS hl
  refine W.lcmp C.1 C.2.1 hd ?_
  rw [lg_I hx hy]
  exact k hM H locs ls hP hS hl
/-- the ends -/
theorem R_wd {H : Heap} {t : State} (C : Cx_ K X G) (hM : ok_m M) (hP : va_P G.2.1 vwCl (ws_w G M) H) (ht : t.heap = H) (hW : (x_s X).WarmedH t.vm) : Wd_ G M t := ⟨hM, by rw [ht]; exact hP, Kn_warm C.2.2.2.2.2.1 hW⟩
theorem V_iret {v r : Int} {M' : Mem_m} (C : Cx_ K X G) (hR : Rx_ X G (some .int)) (hd : decode K.1 pc = .ok (.ireturn, 1)) (hv : ok_i v) (h1 : v = r) (h2 : M = M') : V_ K X G (Fq_ X G (Qi_ G M' r)) M pc lv [iv_i v] := by
  subst h1; subst h2
  intro hM H locs ls hP hS hl
  obtain ⟨r1, r2, r3, r4, r5⟩ := hR
  rw [r4, r5]
  rw [r3] at hS
  exact W.iret C.1 C.2.1 r1 (fun t ht hW => ⟨⟨_, (), rfl, ⟨rfl, hv⟩, R_wd C hM hP ht hW⟩, hS.F ht⟩) hS.2.2 hd r2
theorem V_zret {v r : Int} {M' : Mem_m} (C : Cx_ K X G) (hR : Rx_ X G (some .boolean)) (hd : decode K.1 pc = .ok (.ireturn, 1)) (hv : v = 0 ∨ v = 1) (h1 : v = r) (h2 : M = M') : V_ K X G (Fq_ X G (Qi_ G M' r)) M pc lv [iv_i v] := by
  subst h1; subst h2
  intro hM H locs ls hP hS hl
  obtain ⟨r1, r2, r3, r4, r5⟩ := hR
  rw [r4, r5]
  rw [r3] at hS
  have hn : narrow .boolean (iv_i v) = iv_i v := by rcases hv with rfl | rfl <;> rfl
  have ho : ok_i v := by unfold ok_i; omega
  exact W.zret C.1 C.2.1 r1 hn (fun t ht hW => ⟨⟨_, (), rfl, ⟨rfl, ho⟩, R_wd C hM hP ht hW⟩, hS.F ht⟩) hS.2.2 hd r2
theorem V_lret {v r : Int} {M' : Mem_m} (C : Cx_ K X G) (hR : Rx_ X G (some .long)) (hd : decode K.1 pc = .ok (.lreturn, 1)) (h1 : v = r) (h2 : M = M') : V_ K X G (Fq_ X G (Ql_ G M' r)) M pc lv [jv_i v] := by
  subst h1; subst h2
  intro hM H locs ls hP hS hl
  obtain ⟨r1, r2, r3, r4, r5⟩ := hR
  rw [r4, r5]
  rw [r3] at hS
  exact W.lret C.1 C.2.1 r1 (fun t ht hW => ⟨⟨_, (), rfl, rfl, R_wd C hM hP ht hW⟩, hS.F ht⟩) hS.2.2 hd r2
theorem V_vret {M' : Mem_m} (C : Cx_ K X G) (hR : Rx_ X G none) (hd : decode K.1 pc = .ok (.return_, 1)) (h2 : M = M') : V_ K X G (Fq_ X G (Qv_ G M')) M pc lv [] := by
  subst h2
  intro hM H locs ls hP hS hl
  obtain ⟨r1, r2, r3, r4, r5⟩ := hR
  rw [r4, r5]
  rw [r3] at hS
  exact W.vret C.1 C.2.1 r1 (fun t ht hW => ⟨⟨(), rfl, trivial, R_wd C hM hP ht hW⟩, hS.F ht⟩) hS.2.2 hd r2
end VE
