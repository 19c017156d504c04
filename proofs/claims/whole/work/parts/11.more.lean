/-! Math.min, Math.max at their calls -/
theorem ok_min {x y : Int} (hx : ok_i x) (hy : ok_i y) : ok_i (min x y) := by unfold ok_i at *; omega
theorem ok_max {x y : Int} (hx : ok_i x) (hy : ok_i y) : ok_i (max x y) := by unfold ok_i at *; omega
section VMM
variable {K : KT_k} {X : XT_x} {G : GT_g} {Q : State → Prop} {M : Mem_m} {pc : Nat} {lv : List (Nat × Value)} {rest : List Value} {idx : Nat}
theorem V_mmin {x y : Int} (C : Cx_ K X G) (hw : L1_ K.2.2.1 idx Lib.Math.min.name) (hy : Cond.static Lib.Math.min.name ∈ TB_t ∧ Cond.initialized "java/lang/Math" ∈ TB_t ∧ Cond.code Lib.Math.min.name Lib.Math.min.code 2 (some .int) ∈ TB_t) (hlev : 1 ≤ K.2.2.2) (hcat : (rest.map fun v => v.category).sum ≤ 8) (hd : decode K.1 pc = .ok (.invokestatic idx, 3)) (hx : ok_i x) (hy1 : ok_i y)
    (k : V_ K X G Q M (pc + 3) lv (iv_i (min x y) :: rest)) : V_ K X G Q M pc lv (iv_i y :: iv_i x :: rest) := by
  intro hM H locs ls hP hS hl
  obtain ⟨r1, r2, r3, r4⟩ := C.2.2.2.2.2.2.1
  refine va_mmin C.1 C.2.1 (by rw [C.2.2.1, hl.1]) C.2.2.2.1 (C.2.2.2.2.1 _ hw) (C.2.2.2.2.1 _ hy.1) (C.2.2.2.2.1 _ hy.2.1) (C.2.2.2.2.1 _ hy.2.2) (Nat.le_trans hlev r1) (by omega) r3 r4 hd ?_
  have e : (if Int32.ofInt y < Int32.ofInt x then Int32.ofInt y else Int32.ofInt x) = Int32.ofInt (min x y) := by
    by_cases h : y < x
    · rw [if_pos ((lt_I hy1 hx).mpr h)]; congr 1; omega
    · rw [if_neg (fun q => h ((lt_I hy1 hx).mp q))]; congr 1; omega
  rw [e]
  exact k hM H locs ls hP hS hl
theorem V_mmax {x y : Int} (C : Cx_ K X G) (hw : L1_ K.2.2.1 idx Lib.Math.max.name) (hy : Cond.static Lib.Math.max.name ∈ TB_t ∧ Cond.initialized "java/lang/Math" ∈ TB_t ∧ Cond.code Lib.Math.max.name Lib.Math.max.code 2 (some .int) ∈ TB_t) (hlev : 1 ≤ K.2.2.2) (hcat : (rest.map fun v => v.category).sum ≤ 8) (hd : decode K.1 pc = .ok (.invokestatic idx, 3)) (hx : ok_i x) (hy1 : ok_i y)
    (k : V_ K X G Q M (pc + 3) lv (iv_i (max x y) :: rest)) : V_ K X G Q M pc lv (iv_i y :: iv_i x :: rest) := by
  intro hM H locs ls hP hS hl
  obtain ⟨r1, r2, r3, r4⟩ := C.2.2.2.2.2.2.1
  refine va_mmax C.1 C.2.1 (by rw [C.2.2.1, hl.1]) C.2.2.2.1 (C.2.2.2.2.1 _ hw) (C.2.2.2.2.1 _ hy.1) (C.2.2.2.2.1 _ hy.2.1) (C.2.2.2.2.1 _ hy.2.2) (Nat.le_trans hlev r1) (by omega) r3 r4 hd ?_
  have e : (if Int32.ofInt x < Int32.ofInt y then Int32.ofInt y else Int32.ofInt x) = Int32.ofInt (max x y) := by
    by_cases h : x < y
    · rw [if_pos ((lt_I hx hy1).mpr h)]; congr 1; omega
    · rw [if_neg (fun q => h ((lt_I hx hy1).mp q))]; congr 1; omega
  rw [e]
  exact k hM H locs ls hP hS hl
end VMM
theorem mm_min : Cond.static Lib.Math.min.name ∈ TB_t ∧ Cond.initialized "java/lang/Math" ∈ TB_t ∧ Cond.code Lib.Math.min.name Lib.Math.min.code 2 (some .int) ∈ TB_t := ⟨ys_J9_min_7cf53, yk_J9_min_7cf53.2.1, yk_J9_min_7cf53.1⟩
theorem mm_max : Cond.static Lib.Math.max.name ∈ TB_t ∧ Cond.initialized "java/lang/Math" ∈ TB_t ∧ Cond.code Lib.Math.max.name Lib.Math.max.code 2 (some .int) ∈ TB_t := ⟨ys_J9_max_7cf53, yk_J9_max_7cf53.2.1, yk_J9_max_7cf53.1⟩
section VRE
variable {K : KT_k} {X : XT_x} {G : GT_g} {M : Mem_m} {pc : Nat} {lv : List (Nat × Value)}
theorem V_iret_w {v : Int} {z : Mem_m × Int} (C : Cx_ K X G) (hR : Rx_ X G (some .int)) (hd : decode K.1 pc = .ok (.ireturn, 1)) (hv : ok_i v) (h : some (M, v) = some z) : V_ K X G (Fq_ X G (Qi_ G z.1 z.2)) M pc lv [iv_i v] := by
  cases h; exact V_iret C hR hd hv rfl rfl
theorem V_iret_r {v z : Int} (C : Cx_ K X G) (hR : Rx_ X G (some .int)) (hd : decode K.1 pc = .ok (.ireturn, 1)) (hv : ok_i v) (h : some v = some z) : V_ K X G (Fq_ X G (Qi_ G M z)) M pc lv [iv_i v] := by
  cases h; exact V_iret C hR hd hv rfl rfl
theorem V_zret_w {v : Int} {z : Mem_m × Int} (C : Cx_ K X G) (hR : Rx_ X G (some .boolean)) (hd : decode K.1 pc = .ok (.ireturn, 1)) (hv : v = 0 ∨ v = 1) (h : some (M, v) = some z) : V_ K X G (Fq_ X G (Qi_ G z.1 z.2)) M pc lv [iv_i v] := by
  cases h; exact V_zret C hR hd hv rfl rfl
theorem V_zret_r {v z : Int} (C : Cx_ K X G) (hR : Rx_ X G (some .boolean)) (hd : decode K.1 pc = .ok (.ireturn, 1)) (hv : v = 0 ∨ v = 1) (h : some v = some z) : V_ K X G (Fq_ X G (Qi_ G M z)) M pc lv [iv_i v] := by
  cases h; exact V_zret C hR hd hv rfl rfl
theorem V_lret_w {v : Int} {z : Mem_m × Int} (C : Cx_ K X G) (hR : Rx_ X G (some .long)) (hd : decode K.1 pc = .ok (.lreturn, 1)) (h : some (M, v) = some z) : V_ K X G (Fq_ X G (Ql_ G z.1 z.2)) M pc lv [jv_i v] := by
  cases h; exact V_lret C hR hd rfl rfl
end VRE
