/-! the whole walk, out of a relation R that each call keeps -/
theorem okm_spell (S : SH_s) (x0 : Nat) (x1 x2 : Int) : ∀ (n : Nat) (M z : Mem_m) (x3 : Int), ok_m M → f_X6_spell_2 S x0 x1 x2 n M x3 = some z → ok_m z := by
  intro n
  induction n with
  | zero => intro M z x3 _ h; cases h
  | succ n ih =>
    intro M z x3 hM h
    unfold f_X6_spell_2 at h
    by_cases hc : x3 < x2
    · rw [if_pos hc] at h
      obtain ⟨v1, _, h⟩ := Option.bind_eq_some_iff.mp h
      obtain ⟨M2, e2, h⟩ := Option.bind_eq_some_iff.mp h
      refine ih M2 z _ ?_ h
      unfold sI_ at e2
      split at e2
      · cases e2; exact ok_st hM (ok_I _)
      · cases e2
    · rw [if_neg hc] at h; cases h; exact hM
theorem okm_add11 (S : SH_s) (k_2 : Mem_m → Int → Option Mem_m) (x0 : Nat) (x1 x2 : Int) (z : Mem_m) (hk : ∀ (M : Mem_m) (x : Int), ok_m M → k_2 M x = some z → ok_m z) : ∀ (n : Nat) (M : Mem_m) (x3 : Int), ok_m M → f_X6_addOrder_11 S k_2 x0 x1 x2 n M x3 = some z → ok_m z := by
  intro n
  induction n with
  | zero => intro M x3 _ h; cases h
  | succ n ih =>
    intro M x3 hM h
    unfold f_X6_addOrder_11 at h
    by_cases hc : x3 < 4
    · rw [if_pos hc] at h
      obtain ⟨v1, _, h⟩ := Option.bind_eq_some_iff.mp h
      obtain ⟨v2, _, h⟩ := Option.bind_eq_some_iff.mp h
      obtain ⟨v3, _, h⟩ := Option.bind_eq_some_iff.mp h
      obtain ⟨v4, _, h⟩ := Option.bind_eq_some_iff.mp h
      obtain ⟨v5, _, h⟩ := Option.bind_eq_some_iff.mp h
      obtain ⟨v6, _, h⟩ := Option.bind_eq_some_iff.mp h
      obtain ⟨M2, e2, h⟩ := Option.bind_eq_some_iff.mp h
      refine ih M2 _ ?_ h
      unfold sI_ at e2
      split at e2
      · cases e2; exact ok_st hM (ok_I _)
      · cases e2
    · rw [if_neg hc] at h; exact hk M _ hM h
theorem okm_add2 (S : SH_s) (x0 : Nat) (x1 : Int) (z : Mem_m) : ∀ (n : Nat) (M : Mem_m) (x2 : Int), ok_m M → f_X6_addOrder_2 S x0 x1 n M x2 = some z → ok_m z := by
  intro n
  induction n with
  | zero => intro M x2 _ h; cases h
  | succ n ih =>
    intro M x2 hM h
    unfold f_X6_addOrder_2 at h
    by_cases hc : x2 < 4
    · rw [if_pos hc] at h
      exact okm_add11 S _ x0 x1 x2 z (fun M x hM h => ih M x hM h) FU_ M _ hM h
    · rw [if_neg hc] at h; cases h; exact hM
theorem vc_some {β : Type} {S : SH_s} {a ci : Nat} {o : Option β} {v : β} (h : vc_ S a ci o = some v) : o = some v := by
  unfold vc_ at h
  split at h
  · exact h
  · cases h
theorem okm_init (S : SH_s) (x0 : Nat) : ∀ (n : Nat) (M z : Mem_m) (x1 x2 : Int), ok_m M → f_X6_init_23 S x0 n M x1 x2 = some z → ok_m z := by
  intro n
  induction n with
  | zero => intro M z x1 x2 _ h; cases h
  | succ n ih =>
    intro M z x1 x2 hM h
    unfold f_X6_init_23 at h
    by_cases hc : x2 < 256
    · rw [if_pos hc] at h
      obtain ⟨M1, e1, h⟩ := Option.bind_eq_some_iff.mp h
      have h1 : ok_m M1 := okm_spell S x0 _ _ FU_ M M1 0 hM (vc_some e1)
      obtain ⟨v2, _, h⟩ := Option.bind_eq_some_iff.mp h
      obtain ⟨v3, _, h⟩ := Option.bind_eq_some_iff.mp h
      by_cases h3 : v3 = 0
      · rw [if_pos h3] at h; exact ih M1 z _ _ h1 h
      · rw [if_neg h3] at h
        obtain ⟨M4, e4, h⟩ := Option.bind_eq_some_iff.mp h
        exact ih M4 z _ _ (okm_add2 S x0 _ M4 FU_ M1 0 h1 (vc_some e4)) h
    · rw [if_neg hc] at h; cases h; exact hM
theorem okm_M0 {z : Mem_m} (h : f_X6_init S6_ Z_m 0 = some z) : ok_m (M0_ z) := by
  have h1 : ok_m z := okm_init S6_ 0 FU_ Z_m z 0 0 (fun _ _ => ok_0) h
  intro a k
  unfold M0_
  by_cases hc : 528 ≤ a ∧ a < 531
  · rw [if_pos hc]; exact h1 _ _
  · rw [if_neg hc]; exact ok_0
theorem whole_of {R : Mem_m → Prop} (hs : Sim_ R) (h36 : sim_36 R) (h0 : ∀ z : Mem_m, (List.range 16).map (z 1) = be_l → (List.range 4).map (z 2) = [3, 3, 3, 3] → (List.range 4).map (z 0) = [0, 0, 0, 0] → R (M0_ z)) {p : Program} {e : Env} {s : State} {m : MethodId} {below : List Frame} {meth : Method} {c : Code} (l : Launch) (hflags : l.flags = flags0) {b L : Nat} {xs : Nat → Int32} (hL : L ≤ 3072) (C0 : lw_At p s m meth c b L xs) : W p l e room_1 s m #[Value.ref b] below meth c s.heap [] 0 0 (lw_Z below #[Value.ref b] s) (entryFrame m ([Value.ref b] : List Value).toArray 8) := by
  obtain ⟨z, hz, e1, e2, e3⟩ := z_ex
  exact start_of l hL C0 hs hz (okm_M0 hz) (h0 z e1 e2 e3) (fun D ca hKn j M cc oo h6 hc ho hR hn => law_36 hL C0 hKn (ex_start C0 D ca) (st_off hflags) h36 j M cc oo h6 hc ho hR hn)
