/-! ways to deal: the rows in order; the class's next one -/
def dl_ (n : Nat) : Nat → List Nat → Nat → List (List Nat)
  | 0, row, _ => [row]
  | j + 1, row, us => (List.range n).flatMap fun w => if us.testBit w then [] else dl_ n j (row ++ [w]) (us ||| 2 ^ w)
def rl_ (n : Nat) : List (List Nat) := dl_ n n [] 0
def rw_ (l : List Nat) (k : Nat) : Int := ((l.getD k 0 : Nat) : Int)
def sw_ (l : List Nat) (i j : Nat) : List Nat := (l.set i (l.getD j 0)).set j (l.getD i 0)
def e82_ : Nat → List Nat → Nat → Nat → List Nat
  | 0, l, _, _ => l
  | f + 1, l, i, j => bif Nat.blt i j then e82_ f (sw_ l i j) (i + 1) (j - 1) else l
def e66_ (n : Nat) (l : List Nat) (t o : Nat) : List Nat := e82_ (n + 1) (sw_ l t o) (t + 1) (n - 1)
def e40_ (n : Nat) (l : List Nat) (t : Nat) : Nat → List Nat
  | 0 => e66_ n l t 0
  | o + 1 => bif Nat.ble (o + 1) t then e66_ n l t (o + 1) else bif Nat.blt (l.getD (o + 1) 0) (l.getD t 0) then e40_ n l t o else e66_ n l t (o + 1)
def e4_ (n : Nat) (l : List Nat) : Nat → List Nat
  | 0 => l
  | t + 1 => bif Nat.ble (l.getD t 0) (l.getD (t + 1) 0) then e40_ n l t (n - 1) else e4_ n l t
def np_ (n : Nat) (l : List Nat) : List Nat := e4_ n l (n - 1)
def eq_ : List Nat → List Nat → Bool
  | [], [] => true
  | a :: l, b :: m => Nat.beq a b && eq_ l m
  | _, _ => false
theorem eq_eq : ∀ l m, eq_ l m = true → l = m
  | [], [], _ => rfl
  | a :: l, b :: m, h => by
    have h' : (Nat.beq a b && eq_ l m) = true := h
    rw [Bool.and_eq_true] at h'
    rw [Nat.eq_of_beq_eq_true h'.1, eq_eq l m h'.2]
  | [], _ :: _, h => by cases h
  | _ :: _, [], h => by cases h
def ck_ (n : Nat) : List (List Nat) → Bool
  | [] => true
  | a :: t => (match t with | [] => true | b :: _ => eq_ (np_ n a) b) && ck_ n t
set_option maxRecDepth 1000000 in
theorem ck_tab0 : ∀ n ∈ List.range 6, ck_ n (rl_ n) = true := by decide +kernel
set_option maxRecDepth 1000000 in
theorem ck_tab6 : ck_ 6 (rl_ 6) = true := by decide +kernel
set_option maxRecDepth 1000000 in
theorem ck_tab7 : ck_ 7 (rl_ 7) = true := by decide +kernel
theorem ck_tab : ∀ n ∈ List.range 8, ck_ n (rl_ n) = true := fun n hn => by
  have h := List.mem_range.mp hn
  by_cases h6 : n < 6
  · exact ck_tab0 n (List.mem_range.mpr h6)
  · have : n = 6 ∨ n = 7 := by omega
    rcases this with rfl | rfl
    · exact ck_tab6
    · exact ck_tab7
