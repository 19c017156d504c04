/-! loops: a rule for all, and the search as a special case -/
/-- the rule of a loop over a counter that goes up by one to N: I holds at each head, out of what comes out -/
theorem lp_run {A β : Type} (F : Nat → Int → A → Option β) (N : Int) (I : Int → A → Prop) (out : Option β → Prop)
    (hs : ∀ n x a, x < N → I x a → (∃ a', F (n + 1) x a = F n (x + 1) a' ∧ I (x + 1) a') ∨ out (F (n + 1) x a))
    (he : ∀ n x a, N ≤ x → I x a → out (F (n + 1) x a)) : ∀ n x a, (N - x).toNat < n → I x a → out (F n x a) := by
  intro n
  induction n with
  | zero => intro x a h; exact absurd h (Nat.not_lt_zero _)
  | succ n ih =>
    intro x a h hI
    by_cases hx : x < N
    · rcases hs n x a hx hI with ⟨a', e, h2⟩ | h2
      · rw [e]; exact ih (x + 1) a' (by omega) h2
      · exact h2
    · exact he n x a (by omega) hI
/-- a search: some i at which P holds answers y, else k -/
theorem lp_any {β : Type} (F : Nat → Int → Option β) (N : Int) (P : Int → Prop) (y k : Option β) (x0 : Int)
    (hs : ∀ n x, x0 ≤ x → x < N → (P x ∧ F (n + 1) x = y) ∨ (¬ P x ∧ F (n + 1) x = F n (x + 1)))
    (he : ∀ n x, x0 ≤ x → N ≤ x → F (n + 1) x = k) (n : Nat) (hn : (N - x0).toNat < n) : (F n x0 = y ∧ ∃ i, x0 ≤ i ∧ i < N ∧ P i) ∨ (F n x0 = k ∧ ∀ i, x0 ≤ i → i < N → ¬ P i) := by
  have key := lp_run (A := Unit) (β := β) (fun n x _ => F n x) N (fun x _ => x0 ≤ x ∧ ∀ i, x0 ≤ i → i < x → ¬ P i)
    (fun o => (o = y ∧ ∃ i, x0 ≤ i ∧ i < N ∧ P i) ∨ (o = k ∧ ∀ i, x0 ≤ i → i < N → ¬ P i))
    (fun n x a hx hI => by
      rcases hs n x hI.1 hx with ⟨h1, h2⟩ | ⟨h1, h2⟩
      · exact Or.inr (Or.inl ⟨h2, x, hI.1, hx, h1⟩)
      · refine Or.inl ⟨(), h2, by omega, fun i h3 h4 => ?_⟩
        by_cases h5 : i = x
        · rw [h5]; exact h1
        · exact hI.2 i h3 (by omega))
    (fun n x a hx hI => Or.inr ⟨he n x hI.1 hx, fun i h3 h4 => hI.2 i h3 (by omega)⟩)
  exact key n x0 () hn ⟨Int.le_refl _, fun i h3 h4 => absurd h4 (by omega)⟩
/-- a loop that only changes its memory: it ends, and I holds at the end -/
theorem lp_mem {A : Type} (F : Nat → Int → A → Option A) (N : Int) (I : Int → A → Prop) (x0 : Int) (h0 : x0 ≤ N)
    (hs : ∀ n x a, x0 ≤ x → x < N → I x a → ∃ a', F (n + 1) x a = F n (x + 1) a' ∧ I (x + 1) a')
    (he : ∀ n a, I N a → F (n + 1) N a = some a) (n : Nat) (a : A) (hn : (N - x0).toNat < n) (hI : I x0 a) : ∃ a', F n x0 a = some a' ∧ I N a' := by
  refine lp_run F N (fun x a => x0 ≤ x ∧ x ≤ N ∧ I x a) (fun o => ∃ a', o = some a' ∧ I N a') (fun n x a hx h => ?_) (fun n x a hx h => ?_) n x0 a hn ⟨Int.le_refl _, h0, hI⟩
  · obtain ⟨a', e, h2⟩ := hs n x a h.1 hx h.2.2
    exact Or.inl ⟨a', e, by omega, by omega, h2⟩
  · have e : x = N := by omega
    subst e
    exact ⟨a, he n a h.2.2, h.2.2⟩
