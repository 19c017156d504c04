/-! loops: sums, folds, searches -/
def su_ (f : Int → Int) : Nat → Int
  | 0 => 0
  | n + 1 => su_ f n + f (n : Int)
theorem su_s {f : Int → Int} {x : Int} (h : 0 ≤ x) : su_ f (x + 1).toNat = su_ f x.toNat + f x := by
  rw [show (x + 1).toNat = x.toNat + 1 by omega]
  show su_ f x.toNat + f (x.toNat : Int) = _
  rw [show (x.toNat : Int) = x by omega]
theorem su_bd {f : Int → Int} {B : Int} : ∀ n : Nat, (∀ x : Int, 0 ≤ x → x < n → 0 ≤ f x ∧ f x ≤ B) → 0 ≤ su_ f n ∧ su_ f n ≤ B * n
  | 0, _ => by show 0 ≤ (0 : Int) ∧ (0 : Int) ≤ B * 0; omega
  | n + 1, h => by
    have h1 := su_bd n (fun x q1 q2 => h x q1 (by omega))
    have h2 := h (n : Int) (by omega) (by omega)
    show 0 ≤ su_ f n + f n ∧ su_ f n + f n ≤ B * ((n + 1 : Nat) : Int)
    have h3 : B * ((n + 1 : Nat) : Int) = B * n + B := by rw [Int.natCast_add, Int.mul_add]; simp
    rw [h3]; omega
theorem su_eq {f g : Int → Int} : ∀ n : Nat, (∀ x : Int, 0 ≤ x → x < n → f x = g x) → su_ f n = su_ g n
  | 0, _ => rfl
  | n + 1, h => by
    show su_ f n + f n = su_ g n + g n
    rw [su_eq n (fun x q1 q2 => h x q1 (by omega)), h n (by omega) (by omega)]
/-- a loop that adds up -/
theorem lp_sum {β : Type} {F : Nat → Int → Int → Option β} {N B : Int} {f : Int → Int} {k : Int → Option β} (hN : 0 ≤ N ∧ N < 1000)
    (hf : ∀ x, 0 ≤ x → x < N → 0 ≤ f x ∧ f x ≤ B) (hB : 0 ≤ B ∧ B ≤ 100000)
    (hs : ∀ n a x, 0 ≤ x → x < N → 0 ≤ a → a ≤ 100000000 → F (n + 1) a x = F n (a + f x) (x + 1))
    (he : ∀ n a, F (n + 1) a N = k a) : F FU_ 0 0 = k (su_ f N.toNat) := by
  have key := lp_run (A := Int) (β := β) (fun n x a => F n a x) N (fun x a => 0 ≤ x ∧ x ≤ N ∧ a = su_ f x.toNat) (fun o => o = k (su_ f N.toNat)) ?_ ?_ FU_ 0 0 (by unfold FU_; omega) ⟨by omega, by omega, rfl⟩
  · exact key
  · intro n x a hx ⟨h1, h2, h3⟩
    refine Or.inl ⟨a + f x, ?_, by omega, by omega, ?_⟩
    · have hb := su_bd (f := f) (B := B) x.toNat (fun y q1 q2 => hf y q1 (by omega))
      have hb2 : B * (x.toNat : Int) ≤ 100000 * 1000 := Int.mul_le_mul (by omega) (by omega) (by omega) (by omega)
      exact hs n a x h1 hx (by omega) (by omega)
    · rw [su_s h1, h3]
  · intro n x a hx ⟨h1, h2, h3⟩
    have e : x = N := by omega
    subst e
    show F (n + 1) a x = _
    rw [he, h3]
/-- a fold -/
def fo_ {A : Type} (g : Int → A → A) (a0 : A) : Nat → A
  | 0 => a0
  | n + 1 => g (n : Int) (fo_ g a0 n)
theorem fo_s {A : Type} {g : Int → A → A} {a0 : A} {x : Int} (h : 0 ≤ x) : fo_ g a0 (x + 1).toNat = g x (fo_ g a0 x.toNat) := by
  rw [show (x + 1).toNat = x.toNat + 1 by omega]
  show g (x.toNat : Int) _ = _
  rw [show (x.toNat : Int) = x by omega]
theorem fo_eq {A : Type} {g h : Int → A → A} {a0 : A} : ∀ n : Nat, (∀ x : Int, 0 ≤ x → x < n → ∀ a, g x a = h x a) → fo_ g a0 n = fo_ h a0 n
  | 0, _ => rfl
  | n + 1, q => by
    show g n (fo_ g a0 n) = h n (fo_ h a0 n)
    rw [fo_eq n (fun x q1 q2 => q x q1 (by omega)), q n (by omega) (by omega)]
theorem fo_inv {A : Type} {g : Int → A → A} {a0 : A} {J : A → Prop} (h0 : J a0) : ∀ n : Nat, (∀ x : Int, 0 ≤ x → x < n → ∀ a, J a → J (g x a)) → J (fo_ g a0 n)
  | 0, _ => h0
  | n + 1, q => q n (by omega) (by omega) _ (fo_inv h0 n (fun x q1 q2 => q x q1 (by omega)))
/-- a loop that folds; a state s (a memory) goes with it, of which Q is kept -/
theorem lp_fold {S A β : Type} {F : Nat → Int → S → A → Option β} {N : Int} {Q : S → Prop} {g : Int → A → A} {a0 : A} {k : S → A → Option β}
    (hN : 0 ≤ N ∧ N < 100000)
    (hs : ∀ n x s, 0 ≤ x → x < N → Q s → ∃ s', Q s' ∧ F (n + 1) x s (fo_ g a0 x.toNat) = F n (x + 1) s' (g x (fo_ g a0 x.toNat)))
    (he : ∀ n s, Q s → F (n + 1) N s (fo_ g a0 N.toNat) = k s (fo_ g a0 N.toNat)) {s : S} (hQ : Q s) : ∃ s', Q s' ∧ F FU_ 0 s a0 = k s' (fo_ g a0 N.toNat) := by
  refine lp_run (A := S × A) (β := β) (fun n x a => F n x a.1 a.2) N (fun x a => 0 ≤ x ∧ x ≤ N ∧ Q a.1 ∧ a.2 = fo_ g a0 x.toNat) (fun o => ∃ s', Q s' ∧ o = k s' (fo_ g a0 N.toNat)) ?_ ?_ FU_ 0 (s, a0) (by unfold FU_; omega) ⟨by omega, by omega, hQ, rfl⟩
  · intro n x a hx ⟨h1, h2, h3, h4⟩
    obtain ⟨s', q1, q2⟩ := hs n x a.1 h1 hx h3
    refine Or.inl ⟨(s', g x (fo_ g a0 x.toNat)), ?_, by omega, by omega, q1, ?_⟩
    · show F (n + 1) x a.1 a.2 = _
      rw [h4, q2]
    · show g x _ = _
      rw [fo_s h1]
  · intro n x a hx ⟨h1, h2, h3, h4⟩
    have e : x = N := by omega
    subst e
    refine ⟨a.1, h3, ?_⟩
    show F (n + 1) x a.1 a.2 = _
    rw [h4, he n a.1 h3]
/-- a search: the first x from x0 on at which P holds -/
theorem lp_find {S β : Type} {F : Nat → Int → S → Option β} {N : Int} {Q : S → Prop} {P : Int → Prop} {y : Int → S → Option β} {k : S → Option β} {x0 : Int}
    (hN : N - x0 < 100000)
    (hs : ∀ n x s, x0 ≤ x → x < N → Q s → ∃ s', Q s' ∧ ((P x ∧ F (n + 1) x s = y x s') ∨ (¬ P x ∧ F (n + 1) x s = F n (x + 1) s')))
    (he : ∀ n x s, x0 ≤ x → N ≤ x → Q s → F (n + 1) x s = k s) {s : S} (hQ : Q s) :
    ∃ s', Q s' ∧ ((∃ x, x0 ≤ x ∧ x < N ∧ P x ∧ (∀ z, x0 ≤ z → z < x → ¬ P z) ∧ F FU_ x0 s = y x s') ∨ ((∀ z, x0 ≤ z → z < N → ¬ P z) ∧ F FU_ x0 s = k s')) := by
  refine lp_run (A := S) (β := β) (fun n x a => F n x a) N (fun x a => x0 ≤ x ∧ Q a ∧ ∀ z, x0 ≤ z → z < x → ¬ P z) (fun o => ∃ s', Q s' ∧ ((∃ x, x0 ≤ x ∧ x < N ∧ P x ∧ (∀ z, x0 ≤ z → z < x → ¬ P z) ∧ o = y x s') ∨ ((∀ z, x0 ≤ z → z < N → ¬ P z) ∧ o = k s'))) ?_ ?_ FU_ x0 s (by unfold FU_; omega) ⟨by omega, hQ, fun z q1 q2 => absurd q2 (by omega)⟩
  · intro n x a hx ⟨h1, h2, h3⟩
    obtain ⟨s', q1, q2⟩ := hs n x a h1 hx h2
    rcases q2 with ⟨p1, p2⟩ | ⟨p1, p2⟩
    · exact Or.inr ⟨s', q1, Or.inl ⟨x, h1, hx, p1, h3, p2⟩⟩
    · refine Or.inl ⟨s', p2, by omega, q1, fun z r1 r2 => ?_⟩
      by_cases hz : z = x
      · rw [hz]; exact p1
      · exact h3 z r1 (by omega)
  · intro n x a hx ⟨h1, h2, h3⟩
    exact ⟨a, h2, Or.inr ⟨fun z r1 r2 => h3 z r1 (by omega), he n x a h1 hx h2⟩⟩
/-- the two places of a first one are the same -/
theorem first_eq {P P' : Int → Prop} {x0 N x x' : Int} (hP : ∀ z, x0 ≤ z → z < N → (P z ↔ P' z)) (h1 : x0 ≤ x) (h2 : x < N) (h3 : P x) (h4 : ∀ z, x0 ≤ z → z < x → ¬ P z) (k1 : x0 ≤ x') (k2 : x' < N) (k3 : P' x') (k4 : ∀ z, x0 ≤ z → z < x' → ¬ P' z) : x = x' := by
  rcases Int.lt_trichotomy x x' with h | h | h
  · exact absurd ((hP x h1 h2).mp h3) (k4 x h1 h)
  · exact h
  · exact absurd ((hP x' k1 k2).mpr k3) (h4 x' k1 h)
theorem bnd {α β : Type} {o : Option α} {u : α} (h : o = some u) {f : α → Option β} : o.bind f = f u := by rw [h]; rfl
