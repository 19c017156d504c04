/-! rows for fields, arrays, calls, ends -/
def vT_ (ci : Nat) : u_T := (vwCl.getD ci ("", fun _ => ("", "", "", false), 0)).2.1
def vN_ (ci : Nat) : String := (vwCl.getD ci ("", fun _ => ("", "", "", false), 0)).1
theorem vw_get {ci : Nat} (h : ci < 13) : vwCl[ci]? = some (vN_ ci, vT_ ci, nf_c ci) := by
  unfold vN_ vT_ nf_c
  have hl : ci < vwCl.length := h
  rw [List.getD_eq_getElem?_getD, List.getElem?_eq_getElem hl]
  rfl
def FW_ (own : String) (idx ci k : Nat) : Prop := ci < 13 ∧ k < nf_c ci ∧ Cond.fieldLink own idx (vT_ ci k).1 (vT_ ci k).2.1 (vT_ ci k).2.2.1 ∈ TB_t
def FP_ (ci k : Nat) (ty : FieldType) : Prop := (vT_ ci k).2.2.2 = false ∧ parseFieldDescriptor (vT_ ci k).2.2.1 = some ty
def CK_ (ci : Nat) : Prop := (∀ w ∈ u_ws (vN_ ci) (vT_ ci) (nf_c ci), w ∈ TB_t) ∧ (∃ ty : Nat → FieldType, ∀ k, k < nf_c ci → parseFieldDescriptor (vT_ ci k).2.2.1 = some (ty k)) ∧ ∀ a, a < nf_c ci → ∀ b, b < nf_c ci → a ≠ b → (vT_ ci a).2.1 ≠ (vT_ ci b).2.1
section VM
variable {K : KT_k} {X : XT_x} {G : GT_g} {Q : State → Prop} {M : Mem_m} {pc : Nat} {lv : List (Nat × Value)} {rest : List Value} {α : Type} {z : α}
theorem V_getI {a ci k idx : Nat} {F : Int → Option α} (C : Cx_ K X G) (hck : CK_ ci) (hw : FW_ K.2.2.1 idx ci k) (hd : decode K.1 pc = .ok (.getfield idx, 3)) (h : (gI_ G.2.2.2 M a ci k).bind F = some z)
    (kk : ∀ v, ok_i v → F v = some z → V_ K X G Q M (pc + 3) lv (iv_i v :: rest)) : V_ K X G Q M pc lv (.ref (G.1 + a) :: rest) := by
  intro hM H locs ls hP hS hl
  unfold gI_ at h
  split at h
  case isFalse => cases h
  case isTrue hc =>
    obtain ⟨h1, h2, h3⟩ := hc
    obtain ⟨w1, w2, w3⟩ := hw
    have he := ws_get (G := G) (M := M) h1
    rw [cE_obj h2 w1] at he
    have hv : ((List.range (nf_c ci)).map (vO_c G.1 G.2.2.2 M a))[k]? = some (iv_i (M a k)) := by
      rw [fs_get w2]; unfold vO_c; rw [h3]
    exact va_get C.1 C.2.1 C.2.2.2.2.1 hck.1 C.2.2.2.1 C.2.2.2.2.2.1.1 hP a he (vw_get w1) k w2 (C.2.2.2.2.1 _ w3) (fun _ h9 => h9) hv hd (kk (M a k) (hM a k) h hM H locs ls hP hS hl)
theorem V_getR {a ci k idx : Nat} {F : Nat → Option α} (C : Cx_ K X G) (hck : CK_ ci) (hw : FW_ K.2.2.1 idx ci k) (hd : decode K.1 pc = .ok (.getfield idx, 3)) (h : (gR_ G.2.2.2 a ci k).bind F = some z)
    (kk : ∀ v, F v = some z → V_ K X G Q M (pc + 3) lv (.ref (G.1 + v) :: rest)) : V_ K X G Q M pc lv (.ref (G.1 + a) :: rest) := by
  intro hM H locs ls hP hS hl
  unfold gR_ at h
  split at h
  case isFalse => cases h
  case isTrue hc =>
    obtain ⟨h1, h2, h3⟩ := hc
    obtain ⟨w1, w2, w3⟩ := hw
    have he := ws_get (G := G) (M := M) h1
    rw [cE_obj h2 w1] at he
    have hv : ((List.range (nf_c ci)).map (vO_c G.1 G.2.2.2 M a))[k]? = some (.ref (G.1 + (G.2.2.2.2.2 a k - 2))) := by
      rw [fs_get w2]; unfold vO_c
      obtain ⟨r, hr⟩ : ∃ r, G.2.2.2.2.2 a k = r + 2 := ⟨G.2.2.2.2.2 a k - 2, by omega⟩
      rw [hr]; rfl
    exact va_get C.1 C.2.1 C.2.2.2.2.1 hck.1 C.2.2.2.1 C.2.2.2.2.2.1.1 hP a he (vw_get w1) k w2 (C.2.2.2.2.1 _ w3) (fun _ h9 => h9) hv hd (kk _ h hM H locs ls hP hS hl)
theorem S_fr (C : Cx_ K X G) : va_D (x_A X) (ws_w G M) := (ws_apart G M).weaken fun _ q _ hq => C.2.2.2.2.2.2.2 q.1 hq
theorem V_putc {a ci k idx : Nat} {v : Int} {ty : FieldType} (C : Cx_ K X G) (hck : CK_ ci) (hw : FW_ K.2.2.1 idx ci k) (hf : FP_ ci k ty) (hd : decode K.1 pc = .ok (.putfield idx, 3)) (h1 : a < G.2.2.2.1) (h2 : (G.2.2.2.2.1 a).1 = ci) (h3 : G.2.2.2.2.2 a k = 0) (hn : narrow ty (iv_i v) = iv_i v) (hfit : fits ty (iv_i v) = true) (ho : ok_i v)
    (kk : V_ K X G Q (st_m M a k v) (pc + 3) lv rest) : V_ K X G Q M pc lv (iv_i v :: .ref (G.1 + a) :: rest) := by
  intro hM H locs ls hP hS hl
  obtain ⟨w1, w2, w3⟩ := hw
  obtain ⟨c1, ⟨ty0, c2⟩, c3⟩ := hck
  have he := ws_get (G := G) (M := M) h1
  rw [cE_obj h2 w1] at he
  refine va_put C.1 C.2.1 C.2.2.2.2.1 c1 ty0 c2 c3 C.2.2.2.1 C.2.2.2.2.2.1.1 hP (S_fr C) hS a he (vw_get w1) k w2 (C.2.2.2.2.1 _ w3) (fun _ h9 => h9) hf.1 hf.2 hn hfit (by simpa using w2) hd fun H1 locs1 hP1 _ hS1 => ?_
  have he2 : cE_c G (st_m M a k v) a = .inr (ci, ((List.range (nf_c ci)).map (vO_c G.1 G.2.2.2 M a)).set k (iv_i v)) := by
    rw [cE_obj h2 w1, fs_set w2 h3]
  rw [ws_set h1 (fun b hb => st_o hb) he2] at hP1
  exact kk (ok_st hM ho) H1 locs1 ls hP1 hS1 hl
theorem V_putI {a ci k idx : Nat} {v : Int} {F : Mem_m → Option α} (C : Cx_ K X G) (hck : CK_ ci) (hw : FW_ K.2.2.1 idx ci k) (hf : FP_ ci k .int) (hd : decode K.1 pc = .ok (.putfield idx, 3)) (ho : ok_i v) (h : (pI_ G.2.2.2 M a ci k v).bind F = some z)
    (kk : ∀ M', F M' = some z → V_ K X G Q M' (pc + 3) lv rest) : V_ K X G Q M pc lv (iv_i v :: .ref (G.1 + a) :: rest) := by
  unfold pI_ at h
  split at h
  case isFalse => cases h
  case isTrue hc => exact V_putc C hck hw hf hd hc.1 hc.2.1 hc.2.2 rfl rfl ho (kk _ h)
theorem V_putZ {a ci k idx : Nat} {v : Int} {F : Mem_m → Option α} (C : Cx_ K X G) (hck : CK_ ci) (hw : FW_ K.2.2.1 idx ci k) (hf : FP_ ci k .boolean) (hd : decode K.1 pc = .ok (.putfield idx, 3)) (ho : ok_i v) (h : (pZ_ G.2.2.2 M a ci k v).bind F = some z)
    (kk : ∀ M', F M' = some z → V_ K X G Q M' (pc + 3) lv rest) : V_ K X G Q M pc lv (iv_i v :: .ref (G.1 + a) :: rest) := by
  unfold pZ_ at h
  split at h
  case isFalse => cases h
  case isTrue hc =>
    obtain ⟨h1, h2, h3, h4⟩ := hc
    rcases h4 with rfl | rfl
    · exact V_putc C hck hw hf hd h1 h2 h3 rfl rfl ho (kk _ h)
    · exact V_putc C hck hw hf hd h1 h2 h3 rfl rfl ho (kk _ h)
theorem V_iald {a : Nat} {i : Int} {F : Int → Option α} (C : Cx_ K X G) (hd : decode K.1 pc = .ok (.iaload, 1)) (hi : ok_i i) (h : (aI_ G.2.2.2 M a i).bind F = some z)
    (kk : ∀ v, ok_i v → F v = some z → V_ K X G Q M (pc + 1) lv (iv_i v :: rest)) : V_ K X G Q M pc lv (iv_i i :: .ref (G.1 + a) :: rest) := by
  intro hM H locs ls hP hS hl
  unfold aI_ at h
  split at h
  case isFalse => cases h
  case isTrue hc =>
    obtain ⟨h1, h2, h3, h4⟩ := hc
    have he := ws_get (G := G) (M := M) h1
    rw [cE_int h2] at he
    have hh := kk (M a i.toNat) (hM a _) h hM H locs ls hP hS hl
    rw [← clamp_I hi h3] at hh
    exact va_iald C.1 C.2.1 C.2.2.2.2.2.1.1 hP a 0 he rfl (in_I hi h3 h4) hd hh
theorem V_zald {a : Nat} {i : Int} {F : Int → Option α} (C : Cx_ K X G) (hd : decode K.1 pc = .ok (.baload, 1)) (hi : ok_i i) (h : (aZ_ G.2.2.2 M a i).bind F = some z)
    (kk : ∀ v, ok_i v → F v = some z → V_ K X G Q M (pc + 1) lv (iv_i v :: rest)) : V_ K X G Q M pc lv (iv_i i :: .ref (G.1 + a) :: rest) := by
  intro hM H locs ls hP hS hl
  unfold aZ_ at h
  split at h
  case isFalse => cases h
  case isTrue hc =>
    obtain ⟨h1, h2, h3, h4⟩ := hc
    have he := ws_get (G := G) (M := M) h1
    rw [cE_boo h2] at he
    have hh := kk (M a i.toNat) (hM a _) h hM H locs ls hP hS hl
    rw [← clamp_I hi h3] at hh
    exact va_zald C.1 C.2.1 C.2.2.2.2.2.1.1 hP a 1 he rfl (in_I hi h3 h4) hd hh
def tC_ (t : Nat) (E : String) : Prop := ∀ ca : Nat → ClassId, (tys_t ca)[t + 2]? = some (ca (t + 2), .object E)
theorem V_aald {a t : Nat} {i : Int} {E : String} {F : Nat → Option α} (C : Cx_ K X G) (ht : tC_ t E) (hd : decode K.1 pc = .ok (.aaload, 1)) (hi : ok_i i) (h : (aR_ G.2.2.2 a (t + 22) i).bind F = some z)
    (kk : ∀ v, F v = some z → V_ K X G Q M (pc + 1) lv (.ref (G.1 + v) :: rest)) : V_ K X G Q M pc lv (iv_i i :: .ref (G.1 + a) :: rest) := by
  intro hM H locs ls hP hS hl
  unfold aR_ at h
  split at h
  case isFalse => cases h
  case isTrue hc =>
    obtain ⟨h1, h2, h3, h4, h5⟩ := hc
    have he := ws_get (G := G) (M := M) h1
    have ht6 : t ≠ 6 := fun q => by subst q; exact absurd (ht (fun _ => 0)) (by simp [tys_t])
    rw [cE_ref h2 ht6] at he
    have hr : va_rf (rO_c G.1 G.2.2.2 a (Int32.ofInt i).toNatClampNeg) = .ref (G.1 + (G.2.2.2.2.2 a i.toNat - 2)) := by
      rw [clamp_I hi h3]
      unfold rO_c
      obtain ⟨r, hr⟩ : ∃ r, G.2.2.2.2.2 a i.toNat = r + 2 := ⟨G.2.2.2.2.2 a i.toNat - 2, by omega⟩
      rw [hr]; rfl
    refine va_aldq C.1 C.2.1 C.2.2.2.2.2.1.1 hP a (t + 2) he (ht _) (in_I hi h3 h4) hd ?_
    rw [hr]
    exact kk _ h hM H locs ls hP hS hl
theorem up_I {M : Mem_m} {a k : Nat} {v : Int} : (fun j => Int32.ofInt (st_m M a k v a j)) = upd (fun j => Int32.ofInt (M a j)) k (Int32.ofInt v) := by
  funext j
  rw [st_s]
  unfold up_r upd
  split <;> rfl
theorem V_iast {a : Nat} {i v : Int} {F : Mem_m → Option α} (C : Cx_ K X G) (hd : decode K.1 pc = .ok (.iastore, 1)) (hi : ok_i i) (hv : ok_i v) (h : (sI_ G.2.2.2 M a i v).bind F = some z)
    (kk : ∀ M', F M' = some z → V_ K X G Q M' (pc + 1) lv rest) : V_ K X G Q M pc lv (iv_i v :: iv_i i :: .ref (G.1 + a) :: rest) := by
  intro hM H locs ls hP hS hl
  unfold sI_ at h
  split at h
  case isFalse => cases h
  case isTrue hc =>
    obtain ⟨h1, h2, h3, h4⟩ := hc
    have he := ws_get (G := G) (M := M) h1
    rw [cE_int h2] at he
    refine va_iast C.1 C.2.1 C.2.2.2.2.2.1.1 hP (S_fr C) hS a 0 he rfl (in_I hi h3 h4) hd fun H1 locs1 hP1 _ hS1 => ?_
    have he2 : cE_c G (st_m M a i.toNat v) a = .inl (G.2.2.1 0, (G.2.2.2.2.1 a).2, .inl (upd (fun j => Int32.ofInt (M a j)) (Int32.ofInt i).toNatClampNeg (Int32.ofInt v))) := by
      rw [cE_int h2, up_I, clamp_I hi h3]
    rw [ws_set h1 (fun b hb => st_o hb) he2] at hP1
    exact kk _ h (ok_st hM hv) H1 locs1 ls hP1 hS1 hl
theorem V_zast {a : Nat} {i v : Int} {F : Mem_m → Option α} (C : Cx_ K X G) (hd : decode K.1 pc = .ok (.bastore, 1)) (hi : ok_i i) (hv : ok_i v) (h : (sZ_ G.2.2.2 M a i v).bind F = some z)
    (kk : ∀ M', F M' = some z → V_ K X G Q M' (pc + 1) lv rest) : V_ K X G Q M pc lv (iv_i v :: iv_i i :: .ref (G.1 + a) :: rest) := by
  intro hM H locs ls hP hS hl
  unfold sZ_ at h
  split at h
  case isFalse => cases h
  case isTrue hc =>
    obtain ⟨h1, h2, h3, h4, h5⟩ := hc
    have he := ws_get (G := G) (M := M) h1
    rw [cE_boo h2] at he
    refine va_zast C.1 C.2.1 C.2.2.2.2.2.1.1 hP (S_fr C) hS a 1 he rfl (in_I hi h3 h4) hd fun H1 locs1 hP1 _ hS1 => ?_
    have hz : vp_nar .boolean (Int32.ofInt v) = Int32.ofInt v := by rcases h5 with rfl | rfl <;> rfl
    have he2 : cE_c G (st_m M a i.toNat v) a = .inl (G.2.2.1 1, (G.2.2.2.2.1 a).2, .inl (upd (fun j => Int32.ofInt (M a j)) (Int32.ofInt i).toNatClampNeg (vp_nar .boolean (Int32.ofInt v)))) := by
      rw [cE_boo h2, up_I, clamp_I hi h3, hz]
    rw [ws_set h1 (fun b hb => st_o hb) he2] at hP1
    exact kk _ h (ok_st hM hv) H1 locs1 ls hP1 hS1 hl
theorem V_alen {a : Nat} {F : Int → Option α} (C : Cx_ K X G) (hd : decode K.1 pc = .ok (.arraylength, 1)) (h : (aL_ G.2.2.2 a).bind F = some z)
    (kk : ∀ v, ok_i v → F v = some z → V_ K X G Q M (pc + 1) lv (iv_i v :: rest)) : V_ K X G Q M pc lv (.ref (G.1 + a) :: rest) := by
  intro hM H locs ls hP hS hl
  unfold aL_ at h
  split at h
  case isFalse => cases h
  case isTrue hc =>
    obtain ⟨h1, h2, h3⟩ := hc
    have he := ws_get (G := G) (M := M) h1
    rw [cE_int h2] at he
    exact va_alen (v := Int32.ofInt ((G.2.2.2.2.1 a).2 : Int)) C.1 C.2.1 C.2.2.2.2.2.1.1 hP a 0 he rfl rfl hd (kk _ (by unfold ok_i; omega) h hM H locs ls hP hS hl)
end VM
