/-! the world: cells at B, B+1, .. : a static shape (kinds, references), and a memory of whole numbers -/
abbrev Mem_m : Type := Nat → Nat → Int
def up_r (f : Nat → Int) (k : Nat) (v : Int) : Nat → Int := fun j => if j = k then v else f j
def st_m (M : Mem_m) (a k : Nat) (v : Int) : Mem_m := fun b => if b = a then up_r (M a) k v else M b
def ok_m (M : Mem_m) : Prop := ∀ a k, ok_i (M a k)
/-- how many cells; the kind of a cell (an object's class, or 20 an int array, 21 a boolean array, 22 .. arrays of objects, 28 a long array; its length); what a slot refers to (0 a number, 1 null, r + 2 the cell r) -/
abbrev SH_s : Type := Nat × (Nat → Nat × Nat) × (Nat → Nat → Nat)
abbrev GT_g : Type := Nat × va_G × (Nat → ClassId) × SH_s
def nf_c (ci : Nat) : Nat := (vwCl.getD ci ("", fun _ => ("", "", "", false), 0)).2.2
def vO_c (B : Nat) (S : SH_s) (M : Mem_m) (a k : Nat) : Value := match S.2.2 a k with
  | 0 => iv_i (M a k)
  | 1 => .null
  | r + 2 => .ref (B + r)
def rO_c (B : Nat) (S : SH_s) (a i : Nat) : Option Nat := match S.2.2 a i with
  | 0 => none
  | 1 => none
  | r + 2 => some (B + r)
def cE_c (G : GT_g) (M : Mem_m) (a : Nat) : va_E :=
  if (G.2.2.2.2.1 a).1 < 13 then .inr ((G.2.2.2.2.1 a).1, (List.range (nf_c (G.2.2.2.2.1 a).1)).map (vO_c G.1 G.2.2.2 M a))
  else if (G.2.2.2.2.1 a).1 < 22 then .inl (G.2.2.1 ((G.2.2.2.2.1 a).1 - 20), (G.2.2.2.2.1 a).2, .inl (fun i => Int32.ofInt (M a i)))
  else if (G.2.2.2.2.1 a).1 = 28 then .inl (G.2.2.1 ((G.2.2.2.2.1 a).1 - 20), (G.2.2.2.2.1 a).2, .inr (.inl (fun i => Int64.ofInt (M a i))))
  else .inl (G.2.2.1 ((G.2.2.2.2.1 a).1 - 20), (G.2.2.2.2.1 a).2, .inr (.inr (.inr (.inr (rO_c G.1 G.2.2.2 a)))))
def ws_w (G : GT_g) (M : Mem_m) : va_W := (List.range G.2.2.2.1).map fun a => (G.1 + a, cE_c G M a)
def fr_w (G : GT_g) : Nat → Prop := fun q => G.1 ≤ q ∧ q < G.1 + G.2.2.2.1
theorem ws_get {G : GT_g} {M : Mem_m} {a : Nat} (h : a < G.2.2.2.1) : (ws_w G M)[a]? = some (G.1 + a, cE_c G M a) := by
  simp [ws_w, List.getElem?_map, List.getElem?_range h]
theorem ws_in {G : GT_g} {M : Mem_m} {k : Nat} {q : Nat × va_E} (h : (ws_w G M)[k]? = some q) : k < G.2.2.2.1 ∧ q = (G.1 + k, cE_c G M k) := by
  have hl := (List.getElem?_eq_some_iff.mp h).1
  simp only [ws_w, List.length_map, List.length_range] at hl
  rw [ws_get hl] at h
  exact ⟨hl, (Option.some.inj h).symm⟩
theorem cE_kept {G : GT_g} {M M' : Mem_m} {a : Nat} (h : M' a = M a) : cE_c G M' a = cE_c G M a := by
  unfold cE_c
  have hv : vO_c G.1 G.2.2.2 M' a = vO_c G.1 G.2.2.2 M a := by
    funext k
    unfold vO_c
    rw [h]
  rw [hv, h]
theorem ws_set {G : GT_g} {M M' : Mem_m} {a : Nat} (h : a < G.2.2.2.1) (ho : ∀ b, b ≠ a → M' b = M b) {e : va_E} (he : cE_c G M' a = e) : (ws_w G M).set a (G.1 + a, e) = ws_w G M' := by
  apply List.ext_getElem?
  intro k
  by_cases hk : k = a
  · subst hk
    rw [List.getElem?_set_self (by simpa [ws_w] using h), ws_get h, he]
  · rw [List.getElem?_set_ne (Ne.symm hk)]
    by_cases hl : k < G.2.2.2.1
    · rw [ws_get hl, ws_get hl, cE_kept (ho k hk)]
    · rw [List.getElem?_eq_none (by simp [ws_w]; omega), List.getElem?_eq_none (by simp [ws_w]; omega)]
theorem ws_apart (G : GT_g) (M : Mem_m) : va_D (fr_w G) (ws_w G M) := by
  refine ⟨fun i j p q hi hj hpq => ?_, fun k q hk => ?_⟩
  · obtain ⟨_, rfl⟩ := ws_in hi
    obtain ⟨_, rfl⟩ := ws_in hj
    have h : G.1 + i = G.1 + j := hpq
    omega
  · obtain ⟨h1, rfl⟩ := ws_in hk
    exact ⟨Nat.le_add_right _ _, Nat.add_lt_add_left h1 _⟩
theorem ws_free {G : GT_g} {M : Mem_m} {sz : Nat} {q : Nat} (h : fr_w G q) : va_A (ws_w G M) sz q := by
  obtain ⟨h1, h2⟩ := h
  refine Or.inl ⟨q - G.1, cE_c G M (q - G.1), ?_⟩
  rw [ws_get (by omega), show G.1 + (q - G.1) = q by omega]
theorem cE_obj {G : GT_g} {M : Mem_m} {a ci : Nat} (hk : (G.2.2.2.2.1 a).1 = ci) (hc : ci < 13) : cE_c G M a = .inr (ci, (List.range (nf_c ci)).map (vO_c G.1 G.2.2.2 M a)) := by
  unfold cE_c
  rw [hk, if_pos hc]
theorem cE_int {G : GT_g} {M : Mem_m} {a : Nat} (hk : (G.2.2.2.2.1 a).1 = 20) : cE_c G M a = .inl (G.2.2.1 0, (G.2.2.2.2.1 a).2, .inl (fun i => Int32.ofInt (M a i))) := by
  unfold cE_c
  rw [hk]; rfl
theorem cE_boo {G : GT_g} {M : Mem_m} {a : Nat} (hk : (G.2.2.2.2.1 a).1 = 21) : cE_c G M a = .inl (G.2.2.1 1, (G.2.2.2.2.1 a).2, .inl (fun i => Int32.ofInt (M a i))) := by
  unfold cE_c
  rw [hk]; rfl
theorem cE_lon {G : GT_g} {M : Mem_m} {a : Nat} (hk : (G.2.2.2.2.1 a).1 = 28) : cE_c G M a = .inl (G.2.2.1 8, (G.2.2.2.2.1 a).2, .inr (.inl (fun i => Int64.ofInt (M a i)))) := by
  unfold cE_c
  rw [hk]; rfl
theorem cE_ref {G : GT_g} {M : Mem_m} {a t : Nat} (hk : (G.2.2.2.2.1 a).1 = t + 22) (ht : t ≠ 6) : cE_c G M a = .inl (G.2.2.1 (t + 2), (G.2.2.2.2.1 a).2, .inr (.inr (.inr (.inr (rO_c G.1 G.2.2.2 a))))) := by
  unfold cE_c
  rw [hk, if_neg (by omega), if_neg (by omega), if_neg (by omega)]; rfl
theorem fs_get {G : GT_g} {M : Mem_m} {a n k : Nat} (hk : k < n) : ((List.range n).map (vO_c G.1 G.2.2.2 M a))[k]? = some (vO_c G.1 G.2.2.2 M a k) := by
  simp [List.getElem?_map, List.getElem?_range hk]
theorem fs_set {G : GT_g} {M : Mem_m} {a n k : Nat} {v : Int} (hk : k < n) (hr : G.2.2.2.2.2 a k = 0) : ((List.range n).map (vO_c G.1 G.2.2.2 M a)).set k (iv_i v) = (List.range n).map (vO_c G.1 G.2.2.2 (st_m M a k v) a) := by
  apply List.ext_getElem?
  intro j
  by_cases hj : j = k
  · subst hj
    rw [List.getElem?_set_self (by simpa using hk), fs_get hk]
    simp only [vO_c, hr, st_m, if_pos, up_r]
  · rw [List.getElem?_set_ne (Ne.symm hj)]
    by_cases hl : j < n
    · rw [fs_get hl, fs_get hl]
      simp only [vO_c, st_m, if_pos, up_r, if_neg hj]
    · rw [List.getElem?_eq_none (by simp; omega), List.getElem?_eq_none (by simp; omega)]
theorem st_o {M : Mem_m} {a k b : Nat} {v : Int} (h : b ≠ a) : st_m M a k v b = M b := by
  unfold st_m; rw [if_neg h]
theorem st_s {M : Mem_m} {a k : Nat} {v : Int} : st_m M a k v a = up_r (M a) k v := by
  unfold st_m; rw [if_pos rfl]
theorem ok_st {M : Mem_m} {a k : Nat} {v : Int} (h : ok_m M) (hv : ok_i v) : ok_m (st_m M a k v) := by
  intro b j
  unfold st_m
  split
  · unfold up_r
    split
    · exact hv
    · exact h _ _
  · exact h _ _
/-- reads and writes, with the tests that the machine's own make sure -/
def gI_ (S : SH_s) (M : Mem_m) (a ci k : Nat) : Option Int := if a < S.1 ∧ (S.2.1 a).1 = ci ∧ S.2.2 a k = 0 then some (M a k) else none
def gR_ (S : SH_s) (a ci k : Nat) : Option Nat := if a < S.1 ∧ (S.2.1 a).1 = ci ∧ 2 ≤ S.2.2 a k then some (S.2.2 a k - 2) else none
def pI_ (S : SH_s) (M : Mem_m) (a ci k : Nat) (v : Int) : Option Mem_m := if a < S.1 ∧ (S.2.1 a).1 = ci ∧ S.2.2 a k = 0 then some (st_m M a k v) else none
def pZ_ (S : SH_s) (M : Mem_m) (a ci k : Nat) (v : Int) : Option Mem_m := if a < S.1 ∧ (S.2.1 a).1 = ci ∧ S.2.2 a k = 0 ∧ (v = 0 ∨ v = 1) then some (st_m M a k v) else none
def aI_ (S : SH_s) (M : Mem_m) (a : Nat) (i : Int) : Option Int := if a < S.1 ∧ (S.2.1 a).1 = 20 ∧ 0 ≤ i ∧ i < (S.2.1 a).2 then some (M a i.toNat) else none
def aZ_ (S : SH_s) (M : Mem_m) (a : Nat) (i : Int) : Option Int := if a < S.1 ∧ (S.2.1 a).1 = 21 ∧ 0 ≤ i ∧ i < (S.2.1 a).2 then some (M a i.toNat) else none
def aR_ (S : SH_s) (a t : Nat) (i : Int) : Option Nat := if a < S.1 ∧ (S.2.1 a).1 = t ∧ 0 ≤ i ∧ i < (S.2.1 a).2 ∧ 2 ≤ S.2.2 a i.toNat then some (S.2.2 a i.toNat - 2) else none
def sI_ (S : SH_s) (M : Mem_m) (a : Nat) (i v : Int) : Option Mem_m := if a < S.1 ∧ (S.2.1 a).1 = 20 ∧ 0 ≤ i ∧ i < (S.2.1 a).2 then some (st_m M a i.toNat v) else none
def sZ_ (S : SH_s) (M : Mem_m) (a : Nat) (i v : Int) : Option Mem_m := if a < S.1 ∧ (S.2.1 a).1 = 21 ∧ 0 ≤ i ∧ i < (S.2.1 a).2 ∧ (v = 0 ∨ v = 1) then some (st_m M a i.toNat v) else none
def aL_ (S : SH_s) (a : Nat) : Option Int := if a < S.1 ∧ (S.2.1 a).1 = 20 ∧ (S.2.1 a).2 < 2147483648 then some ((S.2.1 a).2 : Int) else none
def cpM_ (M : Mem_m) (a : Nat) (i : Nat) (b : Nat) (j n : Nat) : Mem_m := fun c => if c = b then (fun k => if j ≤ k ∧ k < j + n then M a (i + (k - j)) else M b k) else M c
def cp_ (S : SH_s) (M : Mem_m) (a : Nat) (i : Int) (b : Nat) (j n : Int) : Option Mem_m :=
  if a < S.1 ∧ b < S.1 ∧ (S.2.1 a).1 = 20 ∧ (S.2.1 b).1 = 20 ∧ 0 ≤ i ∧ 0 ≤ j ∧ 0 ≤ n ∧ i + n ≤ (S.2.1 a).2 ∧ j + n ≤ (S.2.1 b).2 then some (cpM_ M a i.toNat b j.toNat n.toNat) else none
theorem ok_cp {M : Mem_m} {a i b j n : Nat} (h : ok_m M) : ok_m (cpM_ M a i b j n) := by
  intro c k
  unfold cpM_
  split
  · dsimp only
    split
    · exact h _ _
    · exact h _ _
  · exact h _ _
