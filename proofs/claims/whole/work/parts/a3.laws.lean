/-! the laws: counts, laws, places led; the class -/
def lcp_ : List (Int × Int) → Int → Int → Int
  | [], _, _ => 0
  | p :: ps, x, y => lcp_ ps x y + if p.1 = x ∧ p.2 = y then 1 else 0
theorem cp_app {A B : List (Int × Int)} {x y : Int} : lcp_ (A ++ B) x y = lcp_ A x y + lcp_ B x y := by
  induction A with
  | nil => show _ = 0 + _; rw [Int.zero_add]; rfl
  | cons p A ih => show lcp_ (A ++ B) x y + _ = lcp_ A x y + _ + _; rw [ih]; omega
theorem cp_b {x y : Int} : ∀ P : List (Int × Int), 0 ≤ lcp_ P x y ∧ lcp_ P x y ≤ P.length
  | [] => ⟨Int.le_refl _, Int.le_refl _⟩
  | p :: P => by
    have := cp_b (x := x) (y := y) P
    show 0 ≤ lcp_ P x y + _ ∧ lcp_ P x y + _ ≤ ((P.length + 1 : Nat) : Int)
    split <;> omega
/-- places led by L -/
def lz_ (L : Int → Int) : List (Int × Int) → Int
  | [] => 0
  | p :: ps => lz_ L ps + if L p.1 = p.2 then 1 else 0
theorem lz_app {L : Int → Int} {A B : List (Int × Int)} : lz_ L (A ++ B) = lz_ L A + lz_ L B := by
  induction A with
  | nil => show _ = 0 + _; rw [Int.zero_add]; rfl
  | cons p A ih => show lz_ L (A ++ B) + _ = lz_ L A + _ + _; rw [ih]; omega
theorem lz_b {L : Int → Int} : ∀ P : List (Int × Int), 0 ≤ lz_ L P ∧ lz_ L P ≤ P.length
  | [] => ⟨Int.le_refl _, Int.le_refl _⟩
  | p :: P => by
    have := lz_b (L := L) P
    show 0 ≤ lz_ L P + _ ∧ lz_ L P + _ ≤ ((P.length + 1 : Nat) : Int)
    split <;> omega
/-- the law and its most, by the first n -/
def fla_ (f : Int → Int) : Nat → Int × Int
  | 0 => (-4, 0)
  | n + 1 => if (fla_ f n).2 < f n then ((n : Int), f n) else fla_ f n
theorem fla_pos {f : Int → Int} {n : Nat} (h : (fla_ f n).2 < f n) : fla_ f (n + 1) = ((n : Int), f n) := if_pos h
theorem fla_neg {f : Int → Int} {n : Nat} (h : ¬ (fla_ f n).2 < f n) : fla_ f (n + 1) = fla_ f n := if_neg h
theorem fla_p {f : Int → Int} (hf : ∀ y, 0 ≤ f y) : ∀ n, ((fla_ f n).1 = -4 ∧ (fla_ f n).2 = 0) ∨ ∃ y : Nat, y < n ∧ (fla_ f n).1 = y ∧ (fla_ f n).2 = f y
  | 0 => Or.inl ⟨rfl, rfl⟩
  | n + 1 => by
    by_cases h : (fla_ f n).2 < f n
    · rw [fla_pos h]; exact Or.inr ⟨n, by omega, rfl, rfl⟩
    · rw [fla_neg h]
      rcases fla_p hf n with e | ⟨y, y1, y2, y3⟩
      · exact Or.inl e
      · exact Or.inr ⟨y, by omega, y2, y3⟩
def Lw_ (P : List (Int × Int)) (x : Int) : Int := (fla_ (lcp_ P x) 10).1
def Mo_ (P : List (Int × Int)) (x : Int) : Int := (fla_ (lcp_ P x) 10).2
theorem cp_neg {x y : Int} (hy : y < 0) : ∀ P : List (Int × Int), (∀ p ∈ P, 0 ≤ p.2) → lcp_ P x y = 0
  | [], _ => rfl
  | p :: P, h => by
    have h1 := h p List.mem_cons_self
    show lcp_ P x y + _ = 0
    rw [cp_neg hy P (fun q hq => h q (List.mem_cons_of_mem _ hq)), if_neg (by omega)]; rfl
theorem Mo_eq {P : List (Int × Int)} {x : Int} (h : ∀ p ∈ P, 0 ≤ p.2) : Mo_ P x = lcp_ P x (Lw_ P x) := by
  unfold Mo_ Lw_
  rcases fla_p (f := lcp_ P x) (fun y => (cp_b P).1) 10 with ⟨e1, e2⟩ | ⟨y, y1, y2, y3⟩
  · rw [e1, e2, cp_neg (by decide) P h]
  · rw [y2, y3]
theorem su_add {f g : Int → Int} : ∀ n, su_ (fun x => f x + g x) n = su_ f n + su_ g n
  | 0 => rfl
  | n + 1 => by
    show su_ (fun x => f x + g x) n + (f n + g n) = su_ f n + f n + (su_ g n + g n)
    rw [su_add n]; omega
theorem su_one {L : Int → Int} {a b : Int} (h0 : 0 ≤ a) : ∀ n : Nat, su_ (fun x => if a = x ∧ b = L x then 1 else 0) n = if a < n ∧ L a = b then 1 else 0
  | 0 => by rw [if_neg (by omega)]; rfl
  | n + 1 => by
    show su_ (fun x => if a = x ∧ b = L x then 1 else 0) n + (if a = (n : Int) ∧ b = L (n : Int) then 1 else 0) = _
    rw [su_one h0 n]
    by_cases e : a = (n : Int)
    · rw [if_neg (by omega), ← e]
      by_cases g : b = L a
      · rw [if_pos ⟨rfl, g⟩, if_pos ⟨by omega, g.symm⟩]; rfl
      · rw [if_neg (fun q => g q.2), if_neg (fun q => g q.2.symm)]; rfl
    · rw [if_neg (show ¬ (a = (n : Int) ∧ b = L (n : Int)) from fun q => e q.1)]
      by_cases g : a < (n : Int) ∧ L a = b
      · rw [if_pos g, if_pos ⟨by omega, g.2⟩]; rfl
      · rw [if_neg g, if_neg (fun q => g ⟨by omega, q.2⟩)]; rfl
theorem su_lz {L : Int → Int} : ∀ P : List (Int × Int), (∀ p ∈ P, 0 ≤ p.1 ∧ p.1 < 10) → su_ (fun x => lcp_ P x (L x)) 10 = lz_ L P
  | [], _ => by
    have : ∀ n, su_ (fun x => lcp_ [] x (L x)) n = 0 := by
      intro n
      induction n with
      | zero => rfl
      | succ n ih => show su_ (fun x => lcp_ [] x (L x)) n + 0 = 0; rw [ih]; rfl
    exact this 10
  | p :: P, h => by
    have hp := h p List.mem_cons_self
    have e : (fun x => lcp_ (p :: P) x (L x)) = fun x => lcp_ P x (L x) + (if p.1 = x ∧ p.2 = L x then 1 else 0) := rfl
    rw [e, su_add (f := fun x => lcp_ P x (L x)) (g := fun x => if p.1 = x ∧ p.2 = L x then 1 else 0), su_lz P (fun q hq => h q (List.mem_cons_of_mem _ hq)), su_one hp.1 10]
    show _ = lz_ L P + _
    by_cases g : L p.1 = p.2
    · rw [if_pos ⟨by omega, g⟩, if_pos g]
    · rw [if_neg (fun q => g q.2), if_neg g]
/-- the places of a pair, of the first pairs -/
def lpr_ (v : Nat → Int) (d : Nat → Int) (k : Nat) : Nat → List (Int × Int)
  | 0 => []
  | i + 1 => lpr_ v d k i ++ [(vs_ v (wc_ v k) i, ws_ v (d k) i)]
def pa_ (v : Nat → Int) (d : Nat → Int) : Nat → List (Int × Int)
  | 0 => []
  | k + 1 => pa_ v d k ++ if vz_ v (wc_ v k) = wz_ v (d k) then lpr_ v d k (vz_ v (wc_ v k)).toNat else []
/-- dealt well -/
def Dw_ (v : Nat → Int) (d : Nat → Int) : Prop := ∀ k : Nat, (k : Int) < v 1066 → 0 ≤ d k ∧ d k < v 1066
section
variable {M B : Mem_m} {v : Nat → Int} {d : Nat → Int}
theorem pr_len (k : Nat) : ∀ i, (lpr_ v d k i).length = i
  | 0 => rfl
  | i + 1 => by unfold lpr_; rw [List.length_append, pr_len k i]; rfl
theorem pr_ok (hV : Vw M v) (hd : Dw_ v d) {k : Nat} (hk : (k : Int) < v 1066) (he : vz_ v (wc_ v k) = wz_ v (d k)) : ∀ i : Nat, (i : Int) ≤ vz_ v (wc_ v k) → ∀ p ∈ lpr_ v d k i, (0 ≤ p.1 ∧ p.1 < 10) ∧ 0 ≤ p.2 ∧ p.2 < 10
  | 0, _, p, hp => by cases hp
  | i + 1, hi, p, hp => by
    unfold lpr_ at hp
    rcases List.mem_append.mp hp with q | q
    · exact pr_ok hV hd hk he i (by omega) p q
    · have hc := vb_wc hV (x := (k : Int)) (by omega) hk
      have hdk := hd k hk
      have h1 := vb_snd hV hc.1 hc.2 (i := (i : Int)) (by omega) (by omega)
      have h2 := vb_ws hV hdk.1 hdk.2 (i := (i : Int)) (by omega) (by omega)
      rw [List.mem_singleton.mp q]
      exact ⟨⟨h1.1, by show vs_ v (wc_ v k) i < 10; omega⟩, h2.1, by show ws_ v (d k) i < 10; omega⟩
theorem pa_ok (hV : Vw M v) (hd : Dw_ v d) : ∀ k : Nat, (k : Int) ≤ v 1066 → (pa_ v d k).length ≤ 8 * k ∧ ∀ p ∈ pa_ v d k, (0 ≤ p.1 ∧ p.1 < 10) ∧ 0 ≤ p.2 ∧ p.2 < 10
  | 0, _ => ⟨Nat.le_refl _, fun p hp => by cases hp⟩
  | k + 1, hk => by
    obtain ⟨h1, h2⟩ := pa_ok hV hd k (by omega)
    have hc := vb_wc hV (x := (k : Int)) (by omega) (by omega)
    have hz := vb_size hV hc.1 hc.2
    unfold pa_
    rw [List.length_append]
    by_cases he : vz_ v (wc_ v k) = wz_ v (d k)
    · rw [if_pos he, pr_len]
      refine ⟨by omega, fun p hp => ?_⟩
      rcases List.mem_append.mp hp with q | q
      · exact h2 p q
      · exact pr_ok hV hd (by omega) he _ (by omega) p q
    · rw [if_neg he, List.append_nil]
      exact ⟨by show _ + 0 ≤ _; omega, h2⟩
theorem pa_pos {k : Nat} (he : vz_ v (wc_ v k) = wz_ v (d k)) : pa_ v d (k + 1) = pa_ v d k ++ lpr_ v d k (vz_ v (wc_ v k)).toNat := by
  show _ ++ (if _ then _ else _) = _
  rw [if_pos he]
theorem pa_neg {k : Nat} (he : ¬ vz_ v (wc_ v k) = wz_ v (d k)) : pa_ v d (k + 1) = pa_ v d k := by
  show _ ++ (if _ then _ else _) = _
  rw [if_neg he, List.append_nil]
theorem cp_push {P Q : List (Int × Int)} {a b : Int} {j : Nat} (h1 : ∃ x : Nat, a = x ∧ x < 10) (h2 : ∃ y : Nat, b = y ∧ y < 10) : lcp_ (P ++ (Q ++ [(a, b)])) ((j / 10 : Nat) : Int) ((j % 10 : Nat) : Int) = lcp_ (P ++ Q) ((j / 10 : Nat) : Int) ((j % 10 : Nat) : Int) + if j = (a * 10 + b).toNat then 1 else 0 := by
  obtain ⟨x, rfl, hx⟩ := h1
  obtain ⟨y, rfl, hy⟩ := h2
  rw [← List.append_assoc, cp_app]
  congr 1
  show 0 + (if (x : Int) = _ ∧ (y : Int) = _ then 1 else 0) = _
  by_cases e : j = ((x : Int) * 10 + y).toNat
  · rw [if_pos e, if_pos (by omega)]; rfl
  · rw [if_neg e, if_neg (by omega)]; rfl
theorem sm_53 {A : Mem_m} (h : ∀ a, a ≠ 531 → a ≠ 532 → a ≠ 533 → a ≠ 534 → A a = M a) : sm_ M A := ⟨fun a a1 a2 a3 a4 => h a (by omega) (by omega) (by omega) (by omega), by rw [h 0 (by decide) (by decide) (by decide) (by decide)], by rw [h 592 (by decide) (by decide) (by decide) (by decide)]⟩
/-- one law -/
theorem c_law1 {P : List (Int × Int)} {A : Mem_m} {x : Nat} (hx : x < 10) (hl : P.length ≤ 200) (h532 : ∀ j : Nat, j < 100 → A 532 j = lcp_ P ((j / 10 : Nat) : Int) ((j % 10 : Nat) : Int)) (hs : 0 ≤ A 531 2 ∧ A 531 2 ≤ 100000) :
    ∃ A', f_X4_findLaw SH0_ A 531 (x : Int) = some A' ∧ (∀ a, a ≠ 531 → a ≠ 533 → A' a = A a) ∧ (∀ j, j ≠ x → A' 533 j = A 533 j) ∧ A' 533 x = Lw_ P x ∧ A' 531 2 = A 531 2 + Mo_ P x := by
  have ex : ((x : Int)).toNat = x := by omega
  unfold f_X4_findLaw
  simp (disch := omega) only [↓bqr_C, ↓bqr_D, ↓bqr_N2, ↓bqr_N3, ↓bqr_O, ↓bqr_Q, ↓bqr_W, ↓bqr_S1, ↓bqr_S4, ↓bqr_T2, ↓bqr_T3, ↓bqr_F, ↓bqr_H, ↓bqa_C, ↓bqa_N, ↓bqa_U, ↓bqa_Y, ↓bqa_W, ↓bqa_S, ↓bqgkC_1, ↓bqgkC_2, ↓bqgkC_3, ↓bqgkC_4, ↓bqgkC_5, ↓bqgkC_6, ↓bqgkD_1, ↓bqgkN_0, ↓bqgkN_1, ↓bqgkO_1, ↓bqgkQ_1, ↓bqgkW_1, ↓bqgkS_0, ↓bqgkS_2, ↓bqgkS_3, ↓bqgkT_0, ↓bqgkT_1, ↓bqgkF_1, ↓bqgkH_1, ↓bqgkU_0, ↓bqgkU_1, ↓bqgkU_2, ↓bqgkU_3, ↓bqgkU_4, ↓bqgkY_0, ↓bqgkY_1, ↓bqgkY_2, ↓bqikE_, ↓bqikP_, ↓bqikR_, ↓bqikX_, ↓bqikG_, ↓bqikI_, ↓bqikJ_, ↓bqvkC_, ↓bqvkD_, ↓bqvkN_, ↓bqvkO_, ↓bqvkQ_, ↓bqvkU_, ↓bqvkY_, ↓bqvkW_, ↓bqvkS_, ↓bqvkT_, ↓bqvkF_, ↓bqvkH_, ↓bqr_0_0, ↓bqr_0_1, ↓bqr_0_3, ↓bqr_0_4, ↓bqr_0_5, ↓bqr_0_6, ↓bqr_0_7, ↓bqr_0_8, ↓bqr_1_0, ↓bqr_1_1, ↓bqr_1_2, ↓bqr_1_3, ↓bqr_1_5, ↓bqr_1_8, ↓bqr_1_10, ↓bqr_1_12, ↓bqr_1_13, ↓bqr_518_0, ↓bqr_518_1, ↓bqr_518_2, ↓bqr_518_6, ↓bqr_518_7, ↓bqr_524_0, ↓bqr_524_2, ↓bqr_524_4, ↓bqr_528_0, ↓bqr_528_1, ↓bqr_531_0, ↓bqr_531_1, ↓bqr_531_3, ↓bqr_592_0, ↓bqr_592_1, ↓bqr_592_2, ↓bqr_592_3, ↓bqr_592_4, ↓bqr_592_5, ↓bqr_592_6, ↓bqr_592_7, ↓bqr_592_11, ↓bqr_592_12, ↓bqr_592_13, ↓bqr_592_17, ↓bqr_592_18, ↓bqr_592_19, ↓bqr_592_23, ↓bqr_592_26, ↓bqr_592_27, ↓bqr_592_28, ↓bqg_0_2, ↓bqg_1_4, ↓bqg_1_6, ↓bqg_1_7, ↓bqg_1_9, ↓bqg_1_11, ↓bqg_1_14, ↓bqg_518_3, ↓bqg_518_4, ↓bqg_518_5, ↓bqg_518_8, ↓bqg_518_9, ↓bqg_524_1, ↓bqg_524_3, ↓bqg_528_2, ↓bqg_528_3, ↓bqg_531_2, ↓bqg_535_0, ↓bqg_535_1, ↓bqg_535_2, ↓bqg_535_3, ↓bqg_535_4, ↓bqg_592_8, ↓bqg_592_9, ↓bqg_592_10, ↓bqg_592_14, ↓bqg_592_15, ↓bqg_592_16, ↓bqg_592_20, ↓bqg_592_21, ↓bqg_592_22, ↓bqg_592_24, ↓bqg_592_25, ↓bqg_592_29, ↓bqg_592_30, ↓bqg_592_31, ↓bqg_592_32, ↓bqv_0, ↓bqv_1, ↓bqv_259, ↓bqv_518, ↓bqv_524, ↓bqv_528, ↓bqv_531, ↓bqv_535, ↓bqv_592, ↓bqi_2, ↓bqi_3, ↓bqi_4, ↓bqi_10, ↓bqi_519, ↓bqi_520, ↓bqi_521, ↓bqi_522, ↓bqi_523, ↓bqi_525, ↓bqi_526, ↓bqi_527, ↓bqi_529, ↓bqi_530, ↓bqi_532, ↓bqi_533, ↓bqi_534, ↓bqi_593, ↓bqi_594, ↓bqi_595, ↓bqi_596, ↓bqi_597, ↓bqi_598, ↓bqi_599, ↓bqi_600, ↓bqi_601, ↓bqi_602, ↓bqi_603, ↓bqi_604, ↓bqi_605, ↓bqi_606, ↓bqi_608, ↓bqi_609, ↓bqi_610, ↓bqz_607, ↓bqpkC_1, ↓bqpkC_2, ↓bqpkC_3, ↓bqpkC_4, ↓bqpkC_5, ↓bqpkC_6, ↓bqpkD_1, ↓bqpkN_0, ↓bqpkN_1, ↓bqpkO_1, ↓bqpkQ_1, ↓bqpkW_1, ↓bqpkS_0, ↓bqpkS_2, ↓bqpkS_3, ↓bqpkT_0, ↓bqpkT_1, ↓bqpkF_1, ↓bqpkH_1, ↓bqpkU_0, ↓bqpkU_1, ↓bqpkU_2, ↓bqpkU_3, ↓bqpkU_4, ↓bqpkY_0, ↓bqpkY_1, ↓bqpkY_2, ↓bqskE_, ↓bqskP_, ↓bqskR_, ↓bqskX_, ↓bqskG_, ↓bqskI_, ↓bqskJ_, ↓bqp_0_2, ↓bqp_1_4, ↓bqp_1_6, ↓bqp_1_7, ↓bqp_1_9, ↓bqp_1_11, ↓bqp_1_14, ↓bqp_518_3, ↓bqp_518_4, ↓bqp_518_5, ↓bqp_518_8, ↓bqp_518_9, ↓bqp_524_1, ↓bqp_524_3, ↓bqp_528_2, ↓bqp_528_3, ↓bqp_531_2, ↓bqp_535_0, ↓bqp_535_1, ↓bqp_535_2, ↓bqp_535_3, ↓bqp_535_4, ↓bqp_592_8, ↓bqp_592_9, ↓bqp_592_10, ↓bqp_592_14, ↓bqp_592_15, ↓bqp_592_16, ↓bqp_592_20, ↓bqp_592_21, ↓bqp_592_22, ↓bqp_592_24, ↓bqp_592_25, ↓bqp_592_29, ↓bqp_592_30, ↓bqp_592_31, ↓bqp_592_32, ↓bqs_2, ↓bqs_3, ↓bqs_4, ↓bqs_10, ↓bqs_519, ↓bqs_520, ↓bqs_521, ↓bqs_522, ↓bqs_523, ↓bqs_525, ↓bqs_526, ↓bqs_527, ↓bqs_529, ↓bqs_530, ↓bqs_532, ↓bqs_533, ↓bqs_534, ↓bqs_593, ↓bqs_594, ↓bqs_595, ↓bqs_596, ↓bqs_597, ↓bqs_598, ↓bqs_599, ↓bqs_600, ↓bqs_601, ↓bqs_602, ↓bqs_603, ↓bqs_604, ↓bqs_605, ↓bqs_606, ↓bqs_608, ↓bqs_609, ↓bqs_610, ↓bqt_607, ex]
  refine lp_run (A := Mem_m × Int) (fun n y a => f_X4_findLaw_12 SH0_ 531 (x : Int) n a.1 a.2 y) 10 (fun y a => 0 ≤ y ∧ y ≤ 10 ∧ (∀ b, b ≠ 533 → a.1 b = A b) ∧ (∀ j, j ≠ x → a.1 533 j = A 533 j) ∧ a.1 533 x = (fla_ (lcp_ P x) y.toNat).1 ∧ a.2 = (fla_ (lcp_ P x) y.toNat).2) (fun o => ∃ A', o = some A' ∧ (∀ a, a ≠ 531 → a ≠ 533 → A' a = A a) ∧ (∀ j, j ≠ x → A' 533 j = A 533 j) ∧ A' 533 x = Lw_ P x ∧ A' 531 2 = A 531 2 + Mo_ P x) ?_ ?_ FU_ 0 (st_m A 533 x (-4), 0) (by unfold FU_; omega) ⟨by omega, by omega, fun b hb => st_o2 hb, fun j hj => (show st_m A 533 x (-4) 533 j = A 533 j from st_k hj), (show st_m A 533 x (-4) 533 x = -4 from st_e), rfl⟩
  · intro n y a hy ⟨q1, q2, q3, q4, q5, q6⟩
    obtain ⟨C, m⟩ := a
    dsimp only at q3 q4 q5 q6
    obtain ⟨t, rfl⟩ := int_nat q1
    have et : ((t : Int)).toNat = t := by omega
    have et1 : ((t : Int) + 1).toNat = t + 1 := by omega
    rw [et] at q5 q6
    have ei : ((x : Int) * 10 + t).toNat = 10 * x + t := by omega
    have e1 : C 532 (10 * x + t) = lcp_ P x t := by
      rw [q3 532 (by decide), h532 _ (by omega), show (10 * x + t) / 10 = x by omega, show (10 * x + t) % 10 = t by omega]
    refine Or.inl ?_
    show ∃ a' : Mem_m × Int, f_X4_findLaw_12 SH0_ 531 (x : Int) (n + 1) C m (t : Int) = f_X4_findLaw_12 SH0_ 531 (x : Int) n a'.1 a'.2 ((t : Int) + 1) ∧ _
    rw [f_X4_findLaw_12]
    by_cases h : (fla_ (lcp_ P x) t).2 < lcp_ P x t
    · have h' : ¬ lcp_ P x t ≤ m := by omega
      refine ⟨(st_m C 533 x t, lcp_ P x t), ?_, by omega, by omega, fun b hb => (st_o2 hb).trans (q3 b hb), fun j hj => (st_k hj).trans (q4 j hj), by rw [et1, fla_pos h]; exact (show st_m C 533 x t 533 x = t from st_e), by rw [et1, fla_pos h]⟩
      simp (disch := omega) only [↓bqr_C, ↓bqr_D, ↓bqr_N2, ↓bqr_N3, ↓bqr_O, ↓bqr_Q, ↓bqr_W, ↓bqr_S1, ↓bqr_S4, ↓bqr_T2, ↓bqr_T3, ↓bqr_F, ↓bqr_H, ↓bqa_C, ↓bqa_N, ↓bqa_U, ↓bqa_Y, ↓bqa_W, ↓bqa_S, ↓bqgkC_1, ↓bqgkC_2, ↓bqgkC_3, ↓bqgkC_4, ↓bqgkC_5, ↓bqgkC_6, ↓bqgkD_1, ↓bqgkN_0, ↓bqgkN_1, ↓bqgkO_1, ↓bqgkQ_1, ↓bqgkW_1, ↓bqgkS_0, ↓bqgkS_2, ↓bqgkS_3, ↓bqgkT_0, ↓bqgkT_1, ↓bqgkF_1, ↓bqgkH_1, ↓bqgkU_0, ↓bqgkU_1, ↓bqgkU_2, ↓bqgkU_3, ↓bqgkU_4, ↓bqgkY_0, ↓bqgkY_1, ↓bqgkY_2, ↓bqikE_, ↓bqikP_, ↓bqikR_, ↓bqikX_, ↓bqikG_, ↓bqikI_, ↓bqikJ_, ↓bqvkC_, ↓bqvkD_, ↓bqvkN_, ↓bqvkO_, ↓bqvkQ_, ↓bqvkU_, ↓bqvkY_, ↓bqvkW_, ↓bqvkS_, ↓bqvkT_, ↓bqvkF_, ↓bqvkH_, ↓bqr_0_0, ↓bqr_0_1, ↓bqr_0_3, ↓bqr_0_4, ↓bqr_0_5, ↓bqr_0_6, ↓bqr_0_7, ↓bqr_0_8, ↓bqr_1_0, ↓bqr_1_1, ↓bqr_1_2, ↓bqr_1_3, ↓bqr_1_5, ↓bqr_1_8, ↓bqr_1_10, ↓bqr_1_12, ↓bqr_1_13, ↓bqr_518_0, ↓bqr_518_1, ↓bqr_518_2, ↓bqr_518_6, ↓bqr_518_7, ↓bqr_524_0, ↓bqr_524_2, ↓bqr_524_4, ↓bqr_528_0, ↓bqr_528_1, ↓bqr_531_0, ↓bqr_531_1, ↓bqr_531_3, ↓bqr_592_0, ↓bqr_592_1, ↓bqr_592_2, ↓bqr_592_3, ↓bqr_592_4, ↓bqr_592_5, ↓bqr_592_6, ↓bqr_592_7, ↓bqr_592_11, ↓bqr_592_12, ↓bqr_592_13, ↓bqr_592_17, ↓bqr_592_18, ↓bqr_592_19, ↓bqr_592_23, ↓bqr_592_26, ↓bqr_592_27, ↓bqr_592_28, ↓bqg_0_2, ↓bqg_1_4, ↓bqg_1_6, ↓bqg_1_7, ↓bqg_1_9, ↓bqg_1_11, ↓bqg_1_14, ↓bqg_518_3, ↓bqg_518_4, ↓bqg_518_5, ↓bqg_518_8, ↓bqg_518_9, ↓bqg_524_1, ↓bqg_524_3, ↓bqg_528_2, ↓bqg_528_3, ↓bqg_531_2, ↓bqg_535_0, ↓bqg_535_1, ↓bqg_535_2, ↓bqg_535_3, ↓bqg_535_4, ↓bqg_592_8, ↓bqg_592_9, ↓bqg_592_10, ↓bqg_592_14, ↓bqg_592_15, ↓bqg_592_16, ↓bqg_592_20, ↓bqg_592_21, ↓bqg_592_22, ↓bqg_592_24, ↓bqg_592_25, ↓bqg_592_29, ↓bqg_592_30, ↓bqg_592_31, ↓bqg_592_32, ↓bqv_0, ↓bqv_1, ↓bqv_259, ↓bqv_518, ↓bqv_524, ↓bqv_528, ↓bqv_531, ↓bqv_535, ↓bqv_592, ↓bqi_2, ↓bqi_3, ↓bqi_4, ↓bqi_10, ↓bqi_519, ↓bqi_520, ↓bqi_521, ↓bqi_522, ↓bqi_523, ↓bqi_525, ↓bqi_526, ↓bqi_527, ↓bqi_529, ↓bqi_530, ↓bqi_532, ↓bqi_533, ↓bqi_534, ↓bqi_593, ↓bqi_594, ↓bqi_595, ↓bqi_596, ↓bqi_597, ↓bqi_598, ↓bqi_599, ↓bqi_600, ↓bqi_601, ↓bqi_602, ↓bqi_603, ↓bqi_604, ↓bqi_605, ↓bqi_606, ↓bqi_608, ↓bqi_609, ↓bqi_610, ↓bqz_607, ↓bqpkC_1, ↓bqpkC_2, ↓bqpkC_3, ↓bqpkC_4, ↓bqpkC_5, ↓bqpkC_6, ↓bqpkD_1, ↓bqpkN_0, ↓bqpkN_1, ↓bqpkO_1, ↓bqpkQ_1, ↓bqpkW_1, ↓bqpkS_0, ↓bqpkS_2, ↓bqpkS_3, ↓bqpkT_0, ↓bqpkT_1, ↓bqpkF_1, ↓bqpkH_1, ↓bqpkU_0, ↓bqpkU_1, ↓bqpkU_2, ↓bqpkU_3, ↓bqpkU_4, ↓bqpkY_0, ↓bqpkY_1, ↓bqpkY_2, ↓bqskE_, ↓bqskP_, ↓bqskR_, ↓bqskX_, ↓bqskG_, ↓bqskI_, ↓bqskJ_, ↓bqp_0_2, ↓bqp_1_4, ↓bqp_1_6, ↓bqp_1_7, ↓bqp_1_9, ↓bqp_1_11, ↓bqp_1_14, ↓bqp_518_3, ↓bqp_518_4, ↓bqp_518_5, ↓bqp_518_8, ↓bqp_518_9, ↓bqp_524_1, ↓bqp_524_3, ↓bqp_528_2, ↓bqp_528_3, ↓bqp_531_2, ↓bqp_535_0, ↓bqp_535_1, ↓bqp_535_2, ↓bqp_535_3, ↓bqp_535_4, ↓bqp_592_8, ↓bqp_592_9, ↓bqp_592_10, ↓bqp_592_14, ↓bqp_592_15, ↓bqp_592_16, ↓bqp_592_20, ↓bqp_592_21, ↓bqp_592_22, ↓bqp_592_24, ↓bqp_592_25, ↓bqp_592_29, ↓bqp_592_30, ↓bqp_592_31, ↓bqp_592_32, ↓bqs_2, ↓bqs_3, ↓bqs_4, ↓bqs_10, ↓bqs_519, ↓bqs_520, ↓bqs_521, ↓bqs_522, ↓bqs_523, ↓bqs_525, ↓bqs_526, ↓bqs_527, ↓bqs_529, ↓bqs_530, ↓bqs_532, ↓bqs_533, ↓bqs_534, ↓bqs_593, ↓bqs_594, ↓bqs_595, ↓bqs_596, ↓bqs_597, ↓bqs_598, ↓bqs_599, ↓bqs_600, ↓bqs_601, ↓bqs_602, ↓bqs_603, ↓bqs_604, ↓bqs_605, ↓bqs_606, ↓bqs_608, ↓bqs_609, ↓bqs_610, ↓bqt_607, ↓Option.bind_some, ↓bc_isIn, ↓bm_isIn, ↓bm_isShelf, i01, i10, j01, if_true, if_false, not_true_eq_false, not_false_eq_true, and_true, true_and, and_self, false_and, and_false, ↓reduceIte, Int.reduceEq, Int.reduceLT, Int.reduceLE, Int.reduceNeg, Int.reduceAdd, Int.reduceSub, Int.reduceMul, Int.reduceNe, Int.reduceToNat, Nat.reduceAdd, Nat.reduceMul, Nat.reduceEqDiff, hy, ei, e1, h', ex, wr_n]
    · have h' : lcp_ P x t ≤ m := by omega
      refine ⟨(C, m), ?_, by omega, by omega, q3, q4, by rw [et1, fla_neg h]; exact q5, by rw [et1, fla_neg h]; exact q6⟩
      simp (disch := omega) only [↓bqr_C, ↓bqr_D, ↓bqr_N2, ↓bqr_N3, ↓bqr_O, ↓bqr_Q, ↓bqr_W, ↓bqr_S1, ↓bqr_S4, ↓bqr_T2, ↓bqr_T3, ↓bqr_F, ↓bqr_H, ↓bqa_C, ↓bqa_N, ↓bqa_U, ↓bqa_Y, ↓bqa_W, ↓bqa_S, ↓bqgkC_1, ↓bqgkC_2, ↓bqgkC_3, ↓bqgkC_4, ↓bqgkC_5, ↓bqgkC_6, ↓bqgkD_1, ↓bqgkN_0, ↓bqgkN_1, ↓bqgkO_1, ↓bqgkQ_1, ↓bqgkW_1, ↓bqgkS_0, ↓bqgkS_2, ↓bqgkS_3, ↓bqgkT_0, ↓bqgkT_1, ↓bqgkF_1, ↓bqgkH_1, ↓bqgkU_0, ↓bqgkU_1, ↓bqgkU_2, ↓bqgkU_3, ↓bqgkU_4, ↓bqgkY_0, ↓bqgkY_1, ↓bqgkY_2, ↓bqikE_, ↓bqikP_, ↓bqikR_, ↓bqikX_, ↓bqikG_, ↓bqikI_, ↓bqikJ_, ↓bqvkC_, ↓bqvkD_, ↓bqvkN_, ↓bqvkO_, ↓bqvkQ_, ↓bqvkU_, ↓bqvkY_, ↓bqvkW_, ↓bqvkS_, ↓bqvkT_, ↓bqvkF_, ↓bqvkH_, ↓bqr_0_0, ↓bqr_0_1, ↓bqr_0_3, ↓bqr_0_4, ↓bqr_0_5, ↓bqr_0_6, ↓bqr_0_7, ↓bqr_0_8, ↓bqr_1_0, ↓bqr_1_1, ↓bqr_1_2, ↓bqr_1_3, ↓bqr_1_5, ↓bqr_1_8, ↓bqr_1_10, ↓bqr_1_12, ↓bqr_1_13, ↓bqr_518_0, ↓bqr_518_1, ↓bqr_518_2, ↓bqr_518_6, ↓bqr_518_7, ↓bqr_524_0, ↓bqr_524_2, ↓bqr_524_4, ↓bqr_528_0, ↓bqr_528_1, ↓bqr_531_0, ↓bqr_531_1, ↓bqr_531_3, ↓bqr_592_0, ↓bqr_592_1, ↓bqr_592_2, ↓bqr_592_3, ↓bqr_592_4, ↓bqr_592_5, ↓bqr_592_6, ↓bqr_592_7, ↓bqr_592_11, ↓bqr_592_12, ↓bqr_592_13, ↓bqr_592_17, ↓bqr_592_18, ↓bqr_592_19, ↓bqr_592_23, ↓bqr_592_26, ↓bqr_592_27, ↓bqr_592_28, ↓bqg_0_2, ↓bqg_1_4, ↓bqg_1_6, ↓bqg_1_7, ↓bqg_1_9, ↓bqg_1_11, ↓bqg_1_14, ↓bqg_518_3, ↓bqg_518_4, ↓bqg_518_5, ↓bqg_518_8, ↓bqg_518_9, ↓bqg_524_1, ↓bqg_524_3, ↓bqg_528_2, ↓bqg_528_3, ↓bqg_531_2, ↓bqg_535_0, ↓bqg_535_1, ↓bqg_535_2, ↓bqg_535_3, ↓bqg_535_4, ↓bqg_592_8, ↓bqg_592_9, ↓bqg_592_10, ↓bqg_592_14, ↓bqg_592_15, ↓bqg_592_16, ↓bqg_592_20, ↓bqg_592_21, ↓bqg_592_22, ↓bqg_592_24, ↓bqg_592_25, ↓bqg_592_29, ↓bqg_592_30, ↓bqg_592_31, ↓bqg_592_32, ↓bqv_0, ↓bqv_1, ↓bqv_259, ↓bqv_518, ↓bqv_524, ↓bqv_528, ↓bqv_531, ↓bqv_535, ↓bqv_592, ↓bqi_2, ↓bqi_3, ↓bqi_4, ↓bqi_10, ↓bqi_519, ↓bqi_520, ↓bqi_521, ↓bqi_522, ↓bqi_523, ↓bqi_525, ↓bqi_526, ↓bqi_527, ↓bqi_529, ↓bqi_530, ↓bqi_532, ↓bqi_533, ↓bqi_534, ↓bqi_593, ↓bqi_594, ↓bqi_595, ↓bqi_596, ↓bqi_597, ↓bqi_598, ↓bqi_599, ↓bqi_600, ↓bqi_601, ↓bqi_602, ↓bqi_603, ↓bqi_604, ↓bqi_605, ↓bqi_606, ↓bqi_608, ↓bqi_609, ↓bqi_610, ↓bqz_607, ↓bqpkC_1, ↓bqpkC_2, ↓bqpkC_3, ↓bqpkC_4, ↓bqpkC_5, ↓bqpkC_6, ↓bqpkD_1, ↓bqpkN_0, ↓bqpkN_1, ↓bqpkO_1, ↓bqpkQ_1, ↓bqpkW_1, ↓bqpkS_0, ↓bqpkS_2, ↓bqpkS_3, ↓bqpkT_0, ↓bqpkT_1, ↓bqpkF_1, ↓bqpkH_1, ↓bqpkU_0, ↓bqpkU_1, ↓bqpkU_2, ↓bqpkU_3, ↓bqpkU_4, ↓bqpkY_0, ↓bqpkY_1, ↓bqpkY_2, ↓bqskE_, ↓bqskP_, ↓bqskR_, ↓bqskX_, ↓bqskG_, ↓bqskI_, ↓bqskJ_, ↓bqp_0_2, ↓bqp_1_4, ↓bqp_1_6, ↓bqp_1_7, ↓bqp_1_9, ↓bqp_1_11, ↓bqp_1_14, ↓bqp_518_3, ↓bqp_518_4, ↓bqp_518_5, ↓bqp_518_8, ↓bqp_518_9, ↓bqp_524_1, ↓bqp_524_3, ↓bqp_528_2, ↓bqp_528_3, ↓bqp_531_2, ↓bqp_535_0, ↓bqp_535_1, ↓bqp_535_2, ↓bqp_535_3, ↓bqp_535_4, ↓bqp_592_8, ↓bqp_592_9, ↓bqp_592_10, ↓bqp_592_14, ↓bqp_592_15, ↓bqp_592_16, ↓bqp_592_20, ↓bqp_592_21, ↓bqp_592_22, ↓bqp_592_24, ↓bqp_592_25, ↓bqp_592_29, ↓bqp_592_30, ↓bqp_592_31, ↓bqp_592_32, ↓bqs_2, ↓bqs_3, ↓bqs_4, ↓bqs_10, ↓bqs_519, ↓bqs_520, ↓bqs_521, ↓bqs_522, ↓bqs_523, ↓bqs_525, ↓bqs_526, ↓bqs_527, ↓bqs_529, ↓bqs_530, ↓bqs_532, ↓bqs_533, ↓bqs_534, ↓bqs_593, ↓bqs_594, ↓bqs_595, ↓bqs_596, ↓bqs_597, ↓bqs_598, ↓bqs_599, ↓bqs_600, ↓bqs_601, ↓bqs_602, ↓bqs_603, ↓bqs_604, ↓bqs_605, ↓bqs_606, ↓bqs_608, ↓bqs_609, ↓bqs_610, ↓bqt_607, ↓Option.bind_some, ↓bc_isIn, ↓bm_isIn, ↓bm_isShelf, i01, i10, j01, if_true, if_false, not_true_eq_false, not_false_eq_true, and_true, true_and, and_self, false_and, and_false, ↓reduceIte, Int.reduceEq, Int.reduceLT, Int.reduceLE, Int.reduceNeg, Int.reduceAdd, Int.reduceSub, Int.reduceMul, Int.reduceNe, Int.reduceToNat, Nat.reduceAdd, Nat.reduceMul, Nat.reduceEqDiff, hy, ei, e1, h', ex, wr_n]
  · intro n y a hy ⟨q1, q2, q3, q4, q5, q6⟩
    obtain ⟨C, m⟩ := a
    dsimp only at q3 q4 q5 q6
    have ey : y = 10 := by omega
    subst ey
    have hm : m = Mo_ P x := q6
    have hmb : 0 ≤ Mo_ P x ∧ Mo_ P x ≤ 200 := by
      unfold Mo_
      rcases fla_p (f := lcp_ P x) (fun y => (cp_b P).1) 10 with ⟨e1, e2⟩ | ⟨y, y1, y2, y3⟩
      · omega
      · have := cp_b (x := (x : Int)) (y := (y : Int)) P
        omega
    have e531 : C 531 2 = A 531 2 := by rw [q3 531 (by decide)]
    refine ⟨st_m C 531 2 (A 531 2 + Mo_ P x), ?_, fun a a1 a2 => (st_o2 a1).trans (q3 a a2), fun j hj => by rw [st_o2 (by decide)]; exact q4 j hj, by rw [st_o2 (by decide)]; exact q5, by rw [st_e]⟩
    show f_X4_findLaw_12 SH0_ 531 (x : Int) (n + 1) C m 10 = _
    rw [f_X4_findLaw_12]
    simp (disch := omega) only [↓bqr_C, ↓bqr_D, ↓bqr_N2, ↓bqr_N3, ↓bqr_O, ↓bqr_Q, ↓bqr_W, ↓bqr_S1, ↓bqr_S4, ↓bqr_T2, ↓bqr_T3, ↓bqr_F, ↓bqr_H, ↓bqa_C, ↓bqa_N, ↓bqa_U, ↓bqa_Y, ↓bqa_W, ↓bqa_S, ↓bqgkC_1, ↓bqgkC_2, ↓bqgkC_3, ↓bqgkC_4, ↓bqgkC_5, ↓bqgkC_6, ↓bqgkD_1, ↓bqgkN_0, ↓bqgkN_1, ↓bqgkO_1, ↓bqgkQ_1, ↓bqgkW_1, ↓bqgkS_0, ↓bqgkS_2, ↓bqgkS_3, ↓bqgkT_0, ↓bqgkT_1, ↓bqgkF_1, ↓bqgkH_1, ↓bqgkU_0, ↓bqgkU_1, ↓bqgkU_2, ↓bqgkU_3, ↓bqgkU_4, ↓bqgkY_0, ↓bqgkY_1, ↓bqgkY_2, ↓bqikE_, ↓bqikP_, ↓bqikR_, ↓bqikX_, ↓bqikG_, ↓bqikI_, ↓bqikJ_, ↓bqvkC_, ↓bqvkD_, ↓bqvkN_, ↓bqvkO_, ↓bqvkQ_, ↓bqvkU_, ↓bqvkY_, ↓bqvkW_, ↓bqvkS_, ↓bqvkT_, ↓bqvkF_, ↓bqvkH_, ↓bqr_0_0, ↓bqr_0_1, ↓bqr_0_3, ↓bqr_0_4, ↓bqr_0_5, ↓bqr_0_6, ↓bqr_0_7, ↓bqr_0_8, ↓bqr_1_0, ↓bqr_1_1, ↓bqr_1_2, ↓bqr_1_3, ↓bqr_1_5, ↓bqr_1_8, ↓bqr_1_10, ↓bqr_1_12, ↓bqr_1_13, ↓bqr_518_0, ↓bqr_518_1, ↓bqr_518_2, ↓bqr_518_6, ↓bqr_518_7, ↓bqr_524_0, ↓bqr_524_2, ↓bqr_524_4, ↓bqr_528_0, ↓bqr_528_1, ↓bqr_531_0, ↓bqr_531_1, ↓bqr_531_3, ↓bqr_592_0, ↓bqr_592_1, ↓bqr_592_2, ↓bqr_592_3, ↓bqr_592_4, ↓bqr_592_5, ↓bqr_592_6, ↓bqr_592_7, ↓bqr_592_11, ↓bqr_592_12, ↓bqr_592_13, ↓bqr_592_17, ↓bqr_592_18, ↓bqr_592_19, ↓bqr_592_23, ↓bqr_592_26, ↓bqr_592_27, ↓bqr_592_28, ↓bqg_0_2, ↓bqg_1_4, ↓bqg_1_6, ↓bqg_1_7, ↓bqg_1_9, ↓bqg_1_11, ↓bqg_1_14, ↓bqg_518_3, ↓bqg_518_4, ↓bqg_518_5, ↓bqg_518_8, ↓bqg_518_9, ↓bqg_524_1, ↓bqg_524_3, ↓bqg_528_2, ↓bqg_528_3, ↓bqg_531_2, ↓bqg_535_0, ↓bqg_535_1, ↓bqg_535_2, ↓bqg_535_3, ↓bqg_535_4, ↓bqg_592_8, ↓bqg_592_9, ↓bqg_592_10, ↓bqg_592_14, ↓bqg_592_15, ↓bqg_592_16, ↓bqg_592_20, ↓bqg_592_21, ↓bqg_592_22, ↓bqg_592_24, ↓bqg_592_25, ↓bqg_592_29, ↓bqg_592_30, ↓bqg_592_31, ↓bqg_592_32, ↓bqv_0, ↓bqv_1, ↓bqv_259, ↓bqv_518, ↓bqv_524, ↓bqv_528, ↓bqv_531, ↓bqv_535, ↓bqv_592, ↓bqi_2, ↓bqi_3, ↓bqi_4, ↓bqi_10, ↓bqi_519, ↓bqi_520, ↓bqi_521, ↓bqi_522, ↓bqi_523, ↓bqi_525, ↓bqi_526, ↓bqi_527, ↓bqi_529, ↓bqi_530, ↓bqi_532, ↓bqi_533, ↓bqi_534, ↓bqi_593, ↓bqi_594, ↓bqi_595, ↓bqi_596, ↓bqi_597, ↓bqi_598, ↓bqi_599, ↓bqi_600, ↓bqi_601, ↓bqi_602, ↓bqi_603, ↓bqi_604, ↓bqi_605, ↓bqi_606, ↓bqi_608, ↓bqi_609, ↓bqi_610, ↓bqz_607, ↓bqpkC_1, ↓bqpkC_2, ↓bqpkC_3, ↓bqpkC_4, ↓bqpkC_5, ↓bqpkC_6, ↓bqpkD_1, ↓bqpkN_0, ↓bqpkN_1, ↓bqpkO_1, ↓bqpkQ_1, ↓bqpkW_1, ↓bqpkS_0, ↓bqpkS_2, ↓bqpkS_3, ↓bqpkT_0, ↓bqpkT_1, ↓bqpkF_1, ↓bqpkH_1, ↓bqpkU_0, ↓bqpkU_1, ↓bqpkU_2, ↓bqpkU_3, ↓bqpkU_4, ↓bqpkY_0, ↓bqpkY_1, ↓bqpkY_2, ↓bqskE_, ↓bqskP_, ↓bqskR_, ↓bqskX_, ↓bqskG_, ↓bqskI_, ↓bqskJ_, ↓bqp_0_2, ↓bqp_1_4, ↓bqp_1_6, ↓bqp_1_7, ↓bqp_1_9, ↓bqp_1_11, ↓bqp_1_14, ↓bqp_518_3, ↓bqp_518_4, ↓bqp_518_5, ↓bqp_518_8, ↓bqp_518_9, ↓bqp_524_1, ↓bqp_524_3, ↓bqp_528_2, ↓bqp_528_3, ↓bqp_531_2, ↓bqp_535_0, ↓bqp_535_1, ↓bqp_535_2, ↓bqp_535_3, ↓bqp_535_4, ↓bqp_592_8, ↓bqp_592_9, ↓bqp_592_10, ↓bqp_592_14, ↓bqp_592_15, ↓bqp_592_16, ↓bqp_592_20, ↓bqp_592_21, ↓bqp_592_22, ↓bqp_592_24, ↓bqp_592_25, ↓bqp_592_29, ↓bqp_592_30, ↓bqp_592_31, ↓bqp_592_32, ↓bqs_2, ↓bqs_3, ↓bqs_4, ↓bqs_10, ↓bqs_519, ↓bqs_520, ↓bqs_521, ↓bqs_522, ↓bqs_523, ↓bqs_525, ↓bqs_526, ↓bqs_527, ↓bqs_529, ↓bqs_530, ↓bqs_532, ↓bqs_533, ↓bqs_534, ↓bqs_593, ↓bqs_594, ↓bqs_595, ↓bqs_596, ↓bqs_597, ↓bqs_598, ↓bqs_599, ↓bqs_600, ↓bqs_601, ↓bqs_602, ↓bqs_603, ↓bqs_604, ↓bqs_605, ↓bqs_606, ↓bqs_608, ↓bqs_609, ↓bqs_610, ↓bqt_607, ↓Option.bind_some, ↓bc_isIn, ↓bm_isIn, ↓bm_isShelf, i01, i10, j01, if_true, if_false, not_true_eq_false, not_false_eq_true, and_true, true_and, and_self, false_and, and_false, ↓reduceIte, Int.reduceEq, Int.reduceLT, Int.reduceLE, Int.reduceNeg, Int.reduceAdd, Int.reduceSub, Int.reduceMul, Int.reduceNe, Int.reduceToNat, Nat.reduceAdd, Nat.reduceMul, Nat.reduceEqDiff, e531, hm, wr_n]
/-- the counts of the class -/
theorem c_places (hV : Vw M v) (hd : Dw_ v d) (h534 : ∀ k : Nat, (k : Int) < v 1066 → M 534 k = d k) : ∃ A, f_X4_make SH0_ M 531 1 = f_X4_make_117 SH0_ 531 FU_ A 0 ∧ (∀ a, a ≠ 531 → a ≠ 532 → A a = M a) ∧ A 531 2 = 0 ∧ ∀ j : Nat, j < 100 → A 532 j = lcp_ (pa_ v d (v 1066).toNat) ((j / 10 : Nat) : Int) ((j % 10 : Nat) : Int) := by
  have b14 := vb_14 hV
  have b4 := vb_4 hV
  unfold f_X4_make
  have hf : f_J7_fill_53178 SH0_ M 532 0 = some (fm_ M 532 100 0) := c_fill (by decide) rfl (by decide)
  simp (disch := omega) only [↓bqr_C, ↓bqr_D, ↓bqr_N2, ↓bqr_N3, ↓bqr_O, ↓bqr_Q, ↓bqr_W, ↓bqr_S1, ↓bqr_S4, ↓bqr_T2, ↓bqr_T3, ↓bqr_F, ↓bqr_H, ↓bqa_C, ↓bqa_N, ↓bqa_U, ↓bqa_Y, ↓bqa_W, ↓bqa_S, ↓bqgkC_1, ↓bqgkC_2, ↓bqgkC_3, ↓bqgkC_4, ↓bqgkC_5, ↓bqgkC_6, ↓bqgkD_1, ↓bqgkN_0, ↓bqgkN_1, ↓bqgkO_1, ↓bqgkQ_1, ↓bqgkW_1, ↓bqgkS_0, ↓bqgkS_2, ↓bqgkS_3, ↓bqgkT_0, ↓bqgkT_1, ↓bqgkF_1, ↓bqgkH_1, ↓bqgkU_0, ↓bqgkU_1, ↓bqgkU_2, ↓bqgkU_3, ↓bqgkU_4, ↓bqgkY_0, ↓bqgkY_1, ↓bqgkY_2, ↓bqikE_, ↓bqikP_, ↓bqikR_, ↓bqikX_, ↓bqikG_, ↓bqikI_, ↓bqikJ_, ↓bqvkC_, ↓bqvkD_, ↓bqvkN_, ↓bqvkO_, ↓bqvkQ_, ↓bqvkU_, ↓bqvkY_, ↓bqvkW_, ↓bqvkS_, ↓bqvkT_, ↓bqvkF_, ↓bqvkH_, ↓bqr_0_0, ↓bqr_0_1, ↓bqr_0_3, ↓bqr_0_4, ↓bqr_0_5, ↓bqr_0_6, ↓bqr_0_7, ↓bqr_0_8, ↓bqr_1_0, ↓bqr_1_1, ↓bqr_1_2, ↓bqr_1_3, ↓bqr_1_5, ↓bqr_1_8, ↓bqr_1_10, ↓bqr_1_12, ↓bqr_1_13, ↓bqr_518_0, ↓bqr_518_1, ↓bqr_518_2, ↓bqr_518_6, ↓bqr_518_7, ↓bqr_524_0, ↓bqr_524_2, ↓bqr_524_4, ↓bqr_528_0, ↓bqr_528_1, ↓bqr_531_0, ↓bqr_531_1, ↓bqr_531_3, ↓bqr_592_0, ↓bqr_592_1, ↓bqr_592_2, ↓bqr_592_3, ↓bqr_592_4, ↓bqr_592_5, ↓bqr_592_6, ↓bqr_592_7, ↓bqr_592_11, ↓bqr_592_12, ↓bqr_592_13, ↓bqr_592_17, ↓bqr_592_18, ↓bqr_592_19, ↓bqr_592_23, ↓bqr_592_26, ↓bqr_592_27, ↓bqr_592_28, ↓bqg_0_2, ↓bqg_1_4, ↓bqg_1_6, ↓bqg_1_7, ↓bqg_1_9, ↓bqg_1_11, ↓bqg_1_14, ↓bqg_518_3, ↓bqg_518_4, ↓bqg_518_5, ↓bqg_518_8, ↓bqg_518_9, ↓bqg_524_1, ↓bqg_524_3, ↓bqg_528_2, ↓bqg_528_3, ↓bqg_531_2, ↓bqg_535_0, ↓bqg_535_1, ↓bqg_535_2, ↓bqg_535_3, ↓bqg_535_4, ↓bqg_592_8, ↓bqg_592_9, ↓bqg_592_10, ↓bqg_592_14, ↓bqg_592_15, ↓bqg_592_16, ↓bqg_592_20, ↓bqg_592_21, ↓bqg_592_22, ↓bqg_592_24, ↓bqg_592_25, ↓bqg_592_29, ↓bqg_592_30, ↓bqg_592_31, ↓bqg_592_32, ↓bqv_0, ↓bqv_1, ↓bqv_259, ↓bqv_518, ↓bqv_524, ↓bqv_528, ↓bqv_531, ↓bqv_535, ↓bqv_592, ↓bqi_2, ↓bqi_3, ↓bqi_4, ↓bqi_10, ↓bqi_519, ↓bqi_520, ↓bqi_521, ↓bqi_522, ↓bqi_523, ↓bqi_525, ↓bqi_526, ↓bqi_527, ↓bqi_529, ↓bqi_530, ↓bqi_532, ↓bqi_533, ↓bqi_534, ↓bqi_593, ↓bqi_594, ↓bqi_595, ↓bqi_596, ↓bqi_597, ↓bqi_598, ↓bqi_599, ↓bqi_600, ↓bqi_601, ↓bqi_602, ↓bqi_603, ↓bqi_604, ↓bqi_605, ↓bqi_606, ↓bqi_608, ↓bqi_609, ↓bqi_610, ↓bqz_607, ↓bnd hf]
  refine lp_run (A := Mem_m) (fun n x C => f_X4_make_10 SH0_ 531 1 n C x) (v 1066) (fun x C => 0 ≤ x ∧ x ≤ v 1066 ∧ (∀ a, a ≠ 532 → C a = M a) ∧ ∀ j : Nat, j < 100 → C 532 j = lcp_ (pa_ v d x.toNat) ((j / 10 : Nat) : Int) ((j % 10 : Nat) : Int)) (fun o => ∃ A, o = f_X4_make_117 SH0_ 531 FU_ A 0 ∧ (∀ a, a ≠ 531 → a ≠ 532 → A a = M a) ∧ A 531 2 = 0 ∧ ∀ j : Nat, j < 100 → A 532 j = lcp_ (pa_ v d (v 1066).toNat) ((j / 10 : Nat) : Int) ((j % 10 : Nat) : Int)) ?_ ?_ FU_ 0 (fm_ M 532 100 0) (by unfold FU_; omega) ⟨by omega, by omega, fun a ha => fm_o ha, fun j hj => fm_i (by omega)⟩
  · intro n x C hx ⟨q1, q2, q3, q4⟩
    obtain ⟨k, rfl⟩ := int_nat q1
    have ek : ((k : Int)).toNat = k := by omega
    have ek1 : ((k : Int) + 1).toNat = k + 1 := by omega
    rw [ek] at q4
    have hVC : Vw C v := vw_sm hV (sm_53 (fun a a1 a2 a3 a4 => q3 a a2))
    have hc := vb_wc hVC (x := (k : Int)) (by omega) hx
    have hz := vb_size hVC hc.1 hc.2
    have hdk := hd k hx
    have hwz := vb_wz hVC hdk.1 hdk.2
    have e534 : C 534 k = d k := by rw [q3 534 (by decide)]; exact h534 k hx
    have e10 : C 10 k = wc_ v k := by have := vw_wc hVC (x := (k : Int)) (by omega) hx; rw [ek] at this; exact this
    obtain ⟨hpl, hpo⟩ := pa_ok hVC hd k (by omega)
    generalize hK : (fun (M : Mem_m) (x2 : Int) => f_X4_make_10 SH0_ 531 1 n M x2) = K
    have go : f_X4_make_10 SH0_ 531 1 (n + 1) C (k : Int) = f_X4_make_49 SH0_ K 531 1 (k : Int) (kD_ (wc_ v k)) (kW_ (d k)) FU_ C 0 := by
      rw [f_X4_make_10, hK]
      simp (disch := omega) only [↓bqr_C, ↓bqr_D, ↓bqr_N2, ↓bqr_N3, ↓bqr_O, ↓bqr_Q, ↓bqr_W, ↓bqr_S1, ↓bqr_S4, ↓bqr_T2, ↓bqr_T3, ↓bqr_F, ↓bqr_H, ↓bqa_C, ↓bqa_N, ↓bqa_U, ↓bqa_Y, ↓bqa_W, ↓bqa_S, ↓bqgkC_1, ↓bqgkC_2, ↓bqgkC_3, ↓bqgkC_4, ↓bqgkC_5, ↓bqgkC_6, ↓bqgkD_1, ↓bqgkN_0, ↓bqgkN_1, ↓bqgkO_1, ↓bqgkQ_1, ↓bqgkW_1, ↓bqgkS_0, ↓bqgkS_2, ↓bqgkS_3, ↓bqgkT_0, ↓bqgkT_1, ↓bqgkF_1, ↓bqgkH_1, ↓bqgkU_0, ↓bqgkU_1, ↓bqgkU_2, ↓bqgkU_3, ↓bqgkU_4, ↓bqgkY_0, ↓bqgkY_1, ↓bqgkY_2, ↓bqikE_, ↓bqikP_, ↓bqikR_, ↓bqikX_, ↓bqikG_, ↓bqikI_, ↓bqikJ_, ↓bqvkC_, ↓bqvkD_, ↓bqvkN_, ↓bqvkO_, ↓bqvkQ_, ↓bqvkU_, ↓bqvkY_, ↓bqvkW_, ↓bqvkS_, ↓bqvkT_, ↓bqvkF_, ↓bqvkH_, ↓bqr_0_0, ↓bqr_0_1, ↓bqr_0_3, ↓bqr_0_4, ↓bqr_0_5, ↓bqr_0_6, ↓bqr_0_7, ↓bqr_0_8, ↓bqr_1_0, ↓bqr_1_1, ↓bqr_1_2, ↓bqr_1_3, ↓bqr_1_5, ↓bqr_1_8, ↓bqr_1_10, ↓bqr_1_12, ↓bqr_1_13, ↓bqr_518_0, ↓bqr_518_1, ↓bqr_518_2, ↓bqr_518_6, ↓bqr_518_7, ↓bqr_524_0, ↓bqr_524_2, ↓bqr_524_4, ↓bqr_528_0, ↓bqr_528_1, ↓bqr_531_0, ↓bqr_531_1, ↓bqr_531_3, ↓bqr_592_0, ↓bqr_592_1, ↓bqr_592_2, ↓bqr_592_3, ↓bqr_592_4, ↓bqr_592_5, ↓bqr_592_6, ↓bqr_592_7, ↓bqr_592_11, ↓bqr_592_12, ↓bqr_592_13, ↓bqr_592_17, ↓bqr_592_18, ↓bqr_592_19, ↓bqr_592_23, ↓bqr_592_26, ↓bqr_592_27, ↓bqr_592_28, ↓bqg_0_2, ↓bqg_1_4, ↓bqg_1_6, ↓bqg_1_7, ↓bqg_1_9, ↓bqg_1_11, ↓bqg_1_14, ↓bqg_518_3, ↓bqg_518_4, ↓bqg_518_5, ↓bqg_518_8, ↓bqg_518_9, ↓bqg_524_1, ↓bqg_524_3, ↓bqg_528_2, ↓bqg_528_3, ↓bqg_531_2, ↓bqg_535_0, ↓bqg_535_1, ↓bqg_535_2, ↓bqg_535_3, ↓bqg_535_4, ↓bqg_592_8, ↓bqg_592_9, ↓bqg_592_10, ↓bqg_592_14, ↓bqg_592_15, ↓bqg_592_16, ↓bqg_592_20, ↓bqg_592_21, ↓bqg_592_22, ↓bqg_592_24, ↓bqg_592_25, ↓bqg_592_29, ↓bqg_592_30, ↓bqg_592_31, ↓bqg_592_32, ↓bqv_0, ↓bqv_1, ↓bqv_259, ↓bqv_518, ↓bqv_524, ↓bqv_528, ↓bqv_531, ↓bqv_535, ↓bqv_592, ↓bqi_2, ↓bqi_3, ↓bqi_4, ↓bqi_10, ↓bqi_519, ↓bqi_520, ↓bqi_521, ↓bqi_522, ↓bqi_523, ↓bqi_525, ↓bqi_526, ↓bqi_527, ↓bqi_529, ↓bqi_530, ↓bqi_532, ↓bqi_533, ↓bqi_534, ↓bqi_593, ↓bqi_594, ↓bqi_595, ↓bqi_596, ↓bqi_597, ↓bqi_598, ↓bqi_599, ↓bqi_600, ↓bqi_601, ↓bqi_602, ↓bqi_603, ↓bqi_604, ↓bqi_605, ↓bqi_606, ↓bqi_608, ↓bqi_609, ↓bqi_610, ↓bqz_607, ↓Option.bind_some, ↓bc_isIn, ↓bm_isIn, ↓bm_isShelf, i01, i10, j01, if_true, if_false, not_true_eq_false, not_false_eq_true, and_true, true_and, and_self, false_and, and_false, ↓reduceIte, Int.reduceEq, Int.reduceLT, Int.reduceLE, Int.reduceNeg, Int.reduceAdd, Int.reduceSub, Int.reduceMul, Int.reduceNe, Int.reduceToNat, Nat.reduceAdd, Nat.reduceMul, Nat.reduceEqDiff, vw_14 hVC, hx, ek, e10, e534]
    refine Or.inl ?_
    show ∃ a', f_X4_make_10 SH0_ 531 1 (n + 1) C (k : Int) = f_X4_make_10 SH0_ 531 1 n a' ((k : Int) + 1) ∧ _
    rw [go]
    by_cases he : vz_ v (wc_ v k) = wz_ v (d k)
    rotate_left
    · refine ⟨C, ?_, by omega, by omega, q3, by rw [ek1, pa_neg he]; exact q4⟩
      rw [show FU_ = 999999 + 1 from rfl, f_X4_make_49]
      simp (disch := omega) only [↓bqr_C, ↓bqr_D, ↓bqr_N2, ↓bqr_N3, ↓bqr_O, ↓bqr_Q, ↓bqr_W, ↓bqr_S1, ↓bqr_S4, ↓bqr_T2, ↓bqr_T3, ↓bqr_F, ↓bqr_H, ↓bqa_C, ↓bqa_N, ↓bqa_U, ↓bqa_Y, ↓bqa_W, ↓bqa_S, ↓bqgkC_1, ↓bqgkC_2, ↓bqgkC_3, ↓bqgkC_4, ↓bqgkC_5, ↓bqgkC_6, ↓bqgkD_1, ↓bqgkN_0, ↓bqgkN_1, ↓bqgkO_1, ↓bqgkQ_1, ↓bqgkW_1, ↓bqgkS_0, ↓bqgkS_2, ↓bqgkS_3, ↓bqgkT_0, ↓bqgkT_1, ↓bqgkF_1, ↓bqgkH_1, ↓bqgkU_0, ↓bqgkU_1, ↓bqgkU_2, ↓bqgkU_3, ↓bqgkU_4, ↓bqgkY_0, ↓bqgkY_1, ↓bqgkY_2, ↓bqikE_, ↓bqikP_, ↓bqikR_, ↓bqikX_, ↓bqikG_, ↓bqikI_, ↓bqikJ_, ↓bqvkC_, ↓bqvkD_, ↓bqvkN_, ↓bqvkO_, ↓bqvkQ_, ↓bqvkU_, ↓bqvkY_, ↓bqvkW_, ↓bqvkS_, ↓bqvkT_, ↓bqvkF_, ↓bqvkH_, ↓bqr_0_0, ↓bqr_0_1, ↓bqr_0_3, ↓bqr_0_4, ↓bqr_0_5, ↓bqr_0_6, ↓bqr_0_7, ↓bqr_0_8, ↓bqr_1_0, ↓bqr_1_1, ↓bqr_1_2, ↓bqr_1_3, ↓bqr_1_5, ↓bqr_1_8, ↓bqr_1_10, ↓bqr_1_12, ↓bqr_1_13, ↓bqr_518_0, ↓bqr_518_1, ↓bqr_518_2, ↓bqr_518_6, ↓bqr_518_7, ↓bqr_524_0, ↓bqr_524_2, ↓bqr_524_4, ↓bqr_528_0, ↓bqr_528_1, ↓bqr_531_0, ↓bqr_531_1, ↓bqr_531_3, ↓bqr_592_0, ↓bqr_592_1, ↓bqr_592_2, ↓bqr_592_3, ↓bqr_592_4, ↓bqr_592_5, ↓bqr_592_6, ↓bqr_592_7, ↓bqr_592_11, ↓bqr_592_12, ↓bqr_592_13, ↓bqr_592_17, ↓bqr_592_18, ↓bqr_592_19, ↓bqr_592_23, ↓bqr_592_26, ↓bqr_592_27, ↓bqr_592_28, ↓bqg_0_2, ↓bqg_1_4, ↓bqg_1_6, ↓bqg_1_7, ↓bqg_1_9, ↓bqg_1_11, ↓bqg_1_14, ↓bqg_518_3, ↓bqg_518_4, ↓bqg_518_5, ↓bqg_518_8, ↓bqg_518_9, ↓bqg_524_1, ↓bqg_524_3, ↓bqg_528_2, ↓bqg_528_3, ↓bqg_531_2, ↓bqg_535_0, ↓bqg_535_1, ↓bqg_535_2, ↓bqg_535_3, ↓bqg_535_4, ↓bqg_592_8, ↓bqg_592_9, ↓bqg_592_10, ↓bqg_592_14, ↓bqg_592_15, ↓bqg_592_16, ↓bqg_592_20, ↓bqg_592_21, ↓bqg_592_22, ↓bqg_592_24, ↓bqg_592_25, ↓bqg_592_29, ↓bqg_592_30, ↓bqg_592_31, ↓bqg_592_32, ↓bqv_0, ↓bqv_1, ↓bqv_259, ↓bqv_518, ↓bqv_524, ↓bqv_528, ↓bqv_531, ↓bqv_535, ↓bqv_592, ↓bqi_2, ↓bqi_3, ↓bqi_4, ↓bqi_10, ↓bqi_519, ↓bqi_520, ↓bqi_521, ↓bqi_522, ↓bqi_523, ↓bqi_525, ↓bqi_526, ↓bqi_527, ↓bqi_529, ↓bqi_530, ↓bqi_532, ↓bqi_533, ↓bqi_534, ↓bqi_593, ↓bqi_594, ↓bqi_595, ↓bqi_596, ↓bqi_597, ↓bqi_598, ↓bqi_599, ↓bqi_600, ↓bqi_601, ↓bqi_602, ↓bqi_603, ↓bqi_604, ↓bqi_605, ↓bqi_606, ↓bqi_608, ↓bqi_609, ↓bqi_610, ↓bqz_607, ↓Option.bind_some, ↓bc_isIn, ↓bm_isIn, ↓bm_isShelf, i01, i10, j01, if_true, if_false, not_true_eq_false, not_false_eq_true, and_true, true_and, and_self, false_and, and_false, ↓reduceIte, Int.reduceEq, Int.reduceLT, Int.reduceLE, Int.reduceNeg, Int.reduceAdd, Int.reduceSub, Int.reduceMul, Int.reduceNe, Int.reduceToNat, Nat.reduceAdd, Nat.reduceMul, Nat.reduceEqDiff, vw_at hVC, vw_4 hVC, vw_6 hVC, vw_9 hVC, vw_11 hVC, vw_14 hVC, vw_size hVC, vw_snd hVC, vw_c1 hVC, vw_c2 hVC, vw_c3 hVC, vw_c4 hVC, vw_c5 hVC, vw_c6 hVC, vw_n0 hVC, vw_n1 hVC, vw_nz hVC, vw_ns hVC, vw_nw hVC, vw_nq hVC, vw_y0 hVC, vw_y1 hVC, vw_wz hVC, vw_ws hVC, vw_wc hVC, vw_cl hVC, vw_vi hVC, vw_re hVC, he, wr_n]
      rw [← hK]
    · have inner : ∃ D, f_X4_make_49 SH0_ K 531 1 (k : Int) (kD_ (wc_ v k)) (kW_ (d k)) FU_ C 0 = K D ((k : Int) + 1) ∧ (∀ a, a ≠ 532 → D a = M a) ∧ ∀ j : Nat, j < 100 → D 532 j = lcp_ (pa_ v d k ++ lpr_ v d k (vz_ v (wc_ v k)).toNat) ((j / 10 : Nat) : Int) ((j % 10 : Nat) : Int) := by
        refine lp_run (A := Mem_m) (fun m y D => f_X4_make_49 SH0_ K 531 1 (k : Int) (kD_ (wc_ v k)) (kW_ (d k)) m D y) (vz_ v (wc_ v k)) (fun y D => 0 ≤ y ∧ y ≤ vz_ v (wc_ v k) ∧ (∀ a, a ≠ 532 → D a = M a) ∧ ∀ j : Nat, j < 100 → D 532 j = lcp_ (pa_ v d k ++ lpr_ v d k y.toNat) ((j / 10 : Nat) : Int) ((j % 10 : Nat) : Int)) (fun o => ∃ D, o = K D ((k : Int) + 1) ∧ (∀ a, a ≠ 532 → D a = M a) ∧ ∀ j : Nat, j < 100 → D 532 j = lcp_ (pa_ v d k ++ lpr_ v d k (vz_ v (wc_ v k)).toNat) ((j / 10 : Nat) : Int) ((j % 10 : Nat) : Int)) ?_ ?_ FU_ 0 C (by unfold FU_; omega) ⟨by omega, by omega, q3, fun j hj => by show _ = lcp_ (pa_ v d k ++ []) _ _; rw [List.append_nil]; exact q4 j hj⟩
        · intro m y D hy ⟨r1, r2, r3, r4⟩
          obtain ⟨i, rfl⟩ := int_nat r1
          have ei : ((i : Int)).toNat = i := by omega
          have ei1 : ((i : Int) + 1).toNat = i + 1 := by omega
          rw [ei] at r4
          have hVD : Vw D v := vw_sm hV (sm_53 (fun a a1 a2 a3 a4 => r3 a a2))
          have h1 := vb_snd hVD hc.1 hc.2 (i := (i : Int)) (by omega) hy
          have h2 := vb_ws hVD hdk.1 hdk.2 (i := (i : Int)) (by omega) (by omega)
          obtain ⟨A1, hA1⟩ := int_nat h1.1
          obtain ⟨A2, hA2⟩ := int_nat h2.1
          have ej : (vs_ v (wc_ v k) i * 10 + ws_ v (d k) i).toNat < 100 := by omega
          have hcnt := r4 _ ej
          have hb := cp_b (x := (((vs_ v (wc_ v k) i * 10 + ws_ v (d k) i).toNat / 10 : Nat) : Int)) (y := (((vs_ v (wc_ v k) i * 10 + ws_ v (d k) i).toNat % 10 : Nat) : Int)) (pa_ v d k ++ lpr_ v d k i)
          rw [List.length_append, pr_len, ← hcnt] at hb
          have hsz : ((i : Nat) : Int) < wz_ v (d k) := by omega
          refine Or.inl ⟨st_m D 532 (vs_ v (wc_ v k) i * 10 + ws_ v (d k) i).toNat (D 532 (vs_ v (wc_ v k) i * 10 + ws_ v (d k) i).toNat + 1), ?_, by omega, by omega, fun a ha => (st_o2 ha).trans (r3 a ha), fun j hj => ?_⟩
          · show f_X4_make_49 SH0_ K 531 1 (k : Int) (kD_ (wc_ v k)) (kW_ (d k)) (m + 1) D (i : Int) = _
            rw [f_X4_make_49]
            simp (disch := omega) only [↓bqr_C, ↓bqr_D, ↓bqr_N2, ↓bqr_N3, ↓bqr_O, ↓bqr_Q, ↓bqr_W, ↓bqr_S1, ↓bqr_S4, ↓bqr_T2, ↓bqr_T3, ↓bqr_F, ↓bqr_H, ↓bqa_C, ↓bqa_N, ↓bqa_U, ↓bqa_Y, ↓bqa_W, ↓bqa_S, ↓bqgkC_1, ↓bqgkC_2, ↓bqgkC_3, ↓bqgkC_4, ↓bqgkC_5, ↓bqgkC_6, ↓bqgkD_1, ↓bqgkN_0, ↓bqgkN_1, ↓bqgkO_1, ↓bqgkQ_1, ↓bqgkW_1, ↓bqgkS_0, ↓bqgkS_2, ↓bqgkS_3, ↓bqgkT_0, ↓bqgkT_1, ↓bqgkF_1, ↓bqgkH_1, ↓bqgkU_0, ↓bqgkU_1, ↓bqgkU_2, ↓bqgkU_3, ↓bqgkU_4, ↓bqgkY_0, ↓bqgkY_1, ↓bqgkY_2, ↓bqikE_, ↓bqikP_, ↓bqikR_, ↓bqikX_, ↓bqikG_, ↓bqikI_, ↓bqikJ_, ↓bqvkC_, ↓bqvkD_, ↓bqvkN_, ↓bqvkO_, ↓bqvkQ_, ↓bqvkU_, ↓bqvkY_, ↓bqvkW_, ↓bqvkS_, ↓bqvkT_, ↓bqvkF_, ↓bqvkH_, ↓bqr_0_0, ↓bqr_0_1, ↓bqr_0_3, ↓bqr_0_4, ↓bqr_0_5, ↓bqr_0_6, ↓bqr_0_7, ↓bqr_0_8, ↓bqr_1_0, ↓bqr_1_1, ↓bqr_1_2, ↓bqr_1_3, ↓bqr_1_5, ↓bqr_1_8, ↓bqr_1_10, ↓bqr_1_12, ↓bqr_1_13, ↓bqr_518_0, ↓bqr_518_1, ↓bqr_518_2, ↓bqr_518_6, ↓bqr_518_7, ↓bqr_524_0, ↓bqr_524_2, ↓bqr_524_4, ↓bqr_528_0, ↓bqr_528_1, ↓bqr_531_0, ↓bqr_531_1, ↓bqr_531_3, ↓bqr_592_0, ↓bqr_592_1, ↓bqr_592_2, ↓bqr_592_3, ↓bqr_592_4, ↓bqr_592_5, ↓bqr_592_6, ↓bqr_592_7, ↓bqr_592_11, ↓bqr_592_12, ↓bqr_592_13, ↓bqr_592_17, ↓bqr_592_18, ↓bqr_592_19, ↓bqr_592_23, ↓bqr_592_26, ↓bqr_592_27, ↓bqr_592_28, ↓bqg_0_2, ↓bqg_1_4, ↓bqg_1_6, ↓bqg_1_7, ↓bqg_1_9, ↓bqg_1_11, ↓bqg_1_14, ↓bqg_518_3, ↓bqg_518_4, ↓bqg_518_5, ↓bqg_518_8, ↓bqg_518_9, ↓bqg_524_1, ↓bqg_524_3, ↓bqg_528_2, ↓bqg_528_3, ↓bqg_531_2, ↓bqg_535_0, ↓bqg_535_1, ↓bqg_535_2, ↓bqg_535_3, ↓bqg_535_4, ↓bqg_592_8, ↓bqg_592_9, ↓bqg_592_10, ↓bqg_592_14, ↓bqg_592_15, ↓bqg_592_16, ↓bqg_592_20, ↓bqg_592_21, ↓bqg_592_22, ↓bqg_592_24, ↓bqg_592_25, ↓bqg_592_29, ↓bqg_592_30, ↓bqg_592_31, ↓bqg_592_32, ↓bqv_0, ↓bqv_1, ↓bqv_259, ↓bqv_518, ↓bqv_524, ↓bqv_528, ↓bqv_531, ↓bqv_535, ↓bqv_592, ↓bqi_2, ↓bqi_3, ↓bqi_4, ↓bqi_10, ↓bqi_519, ↓bqi_520, ↓bqi_521, ↓bqi_522, ↓bqi_523, ↓bqi_525, ↓bqi_526, ↓bqi_527, ↓bqi_529, ↓bqi_530, ↓bqi_532, ↓bqi_533, ↓bqi_534, ↓bqi_593, ↓bqi_594, ↓bqi_595, ↓bqi_596, ↓bqi_597, ↓bqi_598, ↓bqi_599, ↓bqi_600, ↓bqi_601, ↓bqi_602, ↓bqi_603, ↓bqi_604, ↓bqi_605, ↓bqi_606, ↓bqi_608, ↓bqi_609, ↓bqi_610, ↓bqz_607, ↓bqpkC_1, ↓bqpkC_2, ↓bqpkC_3, ↓bqpkC_4, ↓bqpkC_5, ↓bqpkC_6, ↓bqpkD_1, ↓bqpkN_0, ↓bqpkN_1, ↓bqpkO_1, ↓bqpkQ_1, ↓bqpkW_1, ↓bqpkS_0, ↓bqpkS_2, ↓bqpkS_3, ↓bqpkT_0, ↓bqpkT_1, ↓bqpkF_1, ↓bqpkH_1, ↓bqpkU_0, ↓bqpkU_1, ↓bqpkU_2, ↓bqpkU_3, ↓bqpkU_4, ↓bqpkY_0, ↓bqpkY_1, ↓bqpkY_2, ↓bqskE_, ↓bqskP_, ↓bqskR_, ↓bqskX_, ↓bqskG_, ↓bqskI_, ↓bqskJ_, ↓bqp_0_2, ↓bqp_1_4, ↓bqp_1_6, ↓bqp_1_7, ↓bqp_1_9, ↓bqp_1_11, ↓bqp_1_14, ↓bqp_518_3, ↓bqp_518_4, ↓bqp_518_5, ↓bqp_518_8, ↓bqp_518_9, ↓bqp_524_1, ↓bqp_524_3, ↓bqp_528_2, ↓bqp_528_3, ↓bqp_531_2, ↓bqp_535_0, ↓bqp_535_1, ↓bqp_535_2, ↓bqp_535_3, ↓bqp_535_4, ↓bqp_592_8, ↓bqp_592_9, ↓bqp_592_10, ↓bqp_592_14, ↓bqp_592_15, ↓bqp_592_16, ↓bqp_592_20, ↓bqp_592_21, ↓bqp_592_22, ↓bqp_592_24, ↓bqp_592_25, ↓bqp_592_29, ↓bqp_592_30, ↓bqp_592_31, ↓bqp_592_32, ↓bqs_2, ↓bqs_3, ↓bqs_4, ↓bqs_10, ↓bqs_519, ↓bqs_520, ↓bqs_521, ↓bqs_522, ↓bqs_523, ↓bqs_525, ↓bqs_526, ↓bqs_527, ↓bqs_529, ↓bqs_530, ↓bqs_532, ↓bqs_533, ↓bqs_534, ↓bqs_593, ↓bqs_594, ↓bqs_595, ↓bqs_596, ↓bqs_597, ↓bqs_598, ↓bqs_599, ↓bqs_600, ↓bqs_601, ↓bqs_602, ↓bqs_603, ↓bqs_604, ↓bqs_605, ↓bqs_606, ↓bqs_608, ↓bqs_609, ↓bqs_610, ↓bqt_607, ↓Option.bind_some, ↓bc_isIn, ↓bm_isIn, ↓bm_isShelf, i01, i10, j01, if_true, if_false, not_true_eq_false, not_false_eq_true, and_true, true_and, and_self, false_and, and_false, ↓reduceIte, Int.reduceEq, Int.reduceLT, Int.reduceLE, Int.reduceNeg, Int.reduceAdd, Int.reduceSub, Int.reduceMul, Int.reduceNe, Int.reduceToNat, Nat.reduceAdd, Nat.reduceMul, Nat.reduceEqDiff, vw_at hVD, vw_4 hVD, vw_6 hVD, vw_9 hVD, vw_11 hVD, vw_14 hVD, vw_size hVD, vw_snd hVD, vw_c1 hVD, vw_c2 hVD, vw_c3 hVD, vw_c4 hVD, vw_c5 hVD, vw_c6 hVD, vw_n0 hVD, vw_n1 hVD, vw_nz hVD, vw_ns hVD, vw_nw hVD, vw_nq hVD, vw_y0 hVD, vw_y1 hVD, vw_wz hVD, vw_ws hVD, vw_wc hVD, vw_cl hVD, vw_vi hVD, vw_re hVD, he, hsz, wr_n]
          · rw [ei1]
            show _ = lcp_ (pa_ v d k ++ (lpr_ v d k i ++ [(vs_ v (wc_ v k) i, ws_ v (d k) i)])) _ _
            rw [cp_push ⟨A1, hA1, by omega⟩ ⟨A2, hA2, by omega⟩]
            by_cases e : j = (vs_ v (wc_ v k) i * 10 + ws_ v (d k) i).toNat
            · rw [if_pos e, e, st_e, hcnt]
            · rw [if_neg e, st_k e, r4 j hj, Int.add_zero]
        · intro m y D hy ⟨r1, r2, r3, r4⟩
          have ey : y = vz_ v (wc_ v k) := by omega
          subst ey
          have hVD : Vw D v := vw_sm hV (sm_53 (fun a a1 a2 a3 a4 => r3 a a2))
          refine ⟨D, ?_, r3, r4⟩
          show f_X4_make_49 SH0_ K 531 1 (k : Int) (kD_ (wc_ v k)) (kW_ (d k)) (m + 1) D (vz_ v (wc_ v k)) = _
          rw [f_X4_make_49]
          simp (disch := omega) only [↓bqr_C, ↓bqr_D, ↓bqr_N2, ↓bqr_N3, ↓bqr_O, ↓bqr_Q, ↓bqr_W, ↓bqr_S1, ↓bqr_S4, ↓bqr_T2, ↓bqr_T3, ↓bqr_F, ↓bqr_H, ↓bqa_C, ↓bqa_N, ↓bqa_U, ↓bqa_Y, ↓bqa_W, ↓bqa_S, ↓bqgkC_1, ↓bqgkC_2, ↓bqgkC_3, ↓bqgkC_4, ↓bqgkC_5, ↓bqgkC_6, ↓bqgkD_1, ↓bqgkN_0, ↓bqgkN_1, ↓bqgkO_1, ↓bqgkQ_1, ↓bqgkW_1, ↓bqgkS_0, ↓bqgkS_2, ↓bqgkS_3, ↓bqgkT_0, ↓bqgkT_1, ↓bqgkF_1, ↓bqgkH_1, ↓bqgkU_0, ↓bqgkU_1, ↓bqgkU_2, ↓bqgkU_3, ↓bqgkU_4, ↓bqgkY_0, ↓bqgkY_1, ↓bqgkY_2, ↓bqikE_, ↓bqikP_, ↓bqikR_, ↓bqikX_, ↓bqikG_, ↓bqikI_, ↓bqikJ_, ↓bqvkC_, ↓bqvkD_, ↓bqvkN_, ↓bqvkO_, ↓bqvkQ_, ↓bqvkU_, ↓bqvkY_, ↓bqvkW_, ↓bqvkS_, ↓bqvkT_, ↓bqvkF_, ↓bqvkH_, ↓bqr_0_0, ↓bqr_0_1, ↓bqr_0_3, ↓bqr_0_4, ↓bqr_0_5, ↓bqr_0_6, ↓bqr_0_7, ↓bqr_0_8, ↓bqr_1_0, ↓bqr_1_1, ↓bqr_1_2, ↓bqr_1_3, ↓bqr_1_5, ↓bqr_1_8, ↓bqr_1_10, ↓bqr_1_12, ↓bqr_1_13, ↓bqr_518_0, ↓bqr_518_1, ↓bqr_518_2, ↓bqr_518_6, ↓bqr_518_7, ↓bqr_524_0, ↓bqr_524_2, ↓bqr_524_4, ↓bqr_528_0, ↓bqr_528_1, ↓bqr_531_0, ↓bqr_531_1, ↓bqr_531_3, ↓bqr_592_0, ↓bqr_592_1, ↓bqr_592_2, ↓bqr_592_3, ↓bqr_592_4, ↓bqr_592_5, ↓bqr_592_6, ↓bqr_592_7, ↓bqr_592_11, ↓bqr_592_12, ↓bqr_592_13, ↓bqr_592_17, ↓bqr_592_18, ↓bqr_592_19, ↓bqr_592_23, ↓bqr_592_26, ↓bqr_592_27, ↓bqr_592_28, ↓bqg_0_2, ↓bqg_1_4, ↓bqg_1_6, ↓bqg_1_7, ↓bqg_1_9, ↓bqg_1_11, ↓bqg_1_14, ↓bqg_518_3, ↓bqg_518_4, ↓bqg_518_5, ↓bqg_518_8, ↓bqg_518_9, ↓bqg_524_1, ↓bqg_524_3, ↓bqg_528_2, ↓bqg_528_3, ↓bqg_531_2, ↓bqg_535_0, ↓bqg_535_1, ↓bqg_535_2, ↓bqg_535_3, ↓bqg_535_4, ↓bqg_592_8, ↓bqg_592_9, ↓bqg_592_10, ↓bqg_592_14, ↓bqg_592_15, ↓bqg_592_16, ↓bqg_592_20, ↓bqg_592_21, ↓bqg_592_22, ↓bqg_592_24, ↓bqg_592_25, ↓bqg_592_29, ↓bqg_592_30, ↓bqg_592_31, ↓bqg_592_32, ↓bqv_0, ↓bqv_1, ↓bqv_259, ↓bqv_518, ↓bqv_524, ↓bqv_528, ↓bqv_531, ↓bqv_535, ↓bqv_592, ↓bqi_2, ↓bqi_3, ↓bqi_4, ↓bqi_10, ↓bqi_519, ↓bqi_520, ↓bqi_521, ↓bqi_522, ↓bqi_523, ↓bqi_525, ↓bqi_526, ↓bqi_527, ↓bqi_529, ↓bqi_530, ↓bqi_532, ↓bqi_533, ↓bqi_534, ↓bqi_593, ↓bqi_594, ↓bqi_595, ↓bqi_596, ↓bqi_597, ↓bqi_598, ↓bqi_599, ↓bqi_600, ↓bqi_601, ↓bqi_602, ↓bqi_603, ↓bqi_604, ↓bqi_605, ↓bqi_606, ↓bqi_608, ↓bqi_609, ↓bqi_610, ↓bqz_607, ↓Option.bind_some, ↓bc_isIn, ↓bm_isIn, ↓bm_isShelf, i01, i10, j01, if_true, if_false, not_true_eq_false, not_false_eq_true, and_true, true_and, and_self, false_and, and_false, ↓reduceIte, Int.reduceEq, Int.reduceLT, Int.reduceLE, Int.reduceNeg, Int.reduceAdd, Int.reduceSub, Int.reduceMul, Int.reduceNe, Int.reduceToNat, Nat.reduceAdd, Nat.reduceMul, Nat.reduceEqDiff, vw_at hVD, vw_4 hVD, vw_6 hVD, vw_9 hVD, vw_11 hVD, vw_14 hVD, vw_size hVD, vw_snd hVD, vw_c1 hVD, vw_c2 hVD, vw_c3 hVD, vw_c4 hVD, vw_c5 hVD, vw_c6 hVD, vw_n0 hVD, vw_n1 hVD, vw_nz hVD, vw_ns hVD, vw_nw hVD, vw_nq hVD, vw_y0 hVD, vw_y1 hVD, vw_wz hVD, vw_ws hVD, vw_wc hVD, vw_cl hVD, vw_vi hVD, vw_re hVD, he, Int.lt_irrefl, wr_n]
      obtain ⟨D, d1, d2, d3⟩ := inner
      refine ⟨D, by rw [d1, ← hK], by omega, by omega, d2, by rw [ek1, pa_pos he]; exact d3⟩
  · intro n x C hx ⟨q1, q2, q3, q4⟩
    have ex : x = v 1066 := by omega
    subst ex
    have hVC : Vw C v := vw_sm hV (sm_53 (fun a a1 a2 a3 a4 => q3 a a2))
    refine ⟨st_m C 531 2 0, ?_, fun a a1 a2 => (st_o2 a1).trans (q3 a a2), st_e, fun j hj => by rw [st_o2 (by decide)]; exact q4 j hj⟩
    show f_X4_make_10 SH0_ 531 1 (n + 1) C (v 1066) = _
    rw [f_X4_make_10]
    simp (disch := omega) only [↓bqr_C, ↓bqr_D, ↓bqr_N2, ↓bqr_N3, ↓bqr_O, ↓bqr_Q, ↓bqr_W, ↓bqr_S1, ↓bqr_S4, ↓bqr_T2, ↓bqr_T3, ↓bqr_F, ↓bqr_H, ↓bqa_C, ↓bqa_N, ↓bqa_U, ↓bqa_Y, ↓bqa_W, ↓bqa_S, ↓bqgkC_1, ↓bqgkC_2, ↓bqgkC_3, ↓bqgkC_4, ↓bqgkC_5, ↓bqgkC_6, ↓bqgkD_1, ↓bqgkN_0, ↓bqgkN_1, ↓bqgkO_1, ↓bqgkQ_1, ↓bqgkW_1, ↓bqgkS_0, ↓bqgkS_2, ↓bqgkS_3, ↓bqgkT_0, ↓bqgkT_1, ↓bqgkF_1, ↓bqgkH_1, ↓bqgkU_0, ↓bqgkU_1, ↓bqgkU_2, ↓bqgkU_3, ↓bqgkU_4, ↓bqgkY_0, ↓bqgkY_1, ↓bqgkY_2, ↓bqikE_, ↓bqikP_, ↓bqikR_, ↓bqikX_, ↓bqikG_, ↓bqikI_, ↓bqikJ_, ↓bqvkC_, ↓bqvkD_, ↓bqvkN_, ↓bqvkO_, ↓bqvkQ_, ↓bqvkU_, ↓bqvkY_, ↓bqvkW_, ↓bqvkS_, ↓bqvkT_, ↓bqvkF_, ↓bqvkH_, ↓bqr_0_0, ↓bqr_0_1, ↓bqr_0_3, ↓bqr_0_4, ↓bqr_0_5, ↓bqr_0_6, ↓bqr_0_7, ↓bqr_0_8, ↓bqr_1_0, ↓bqr_1_1, ↓bqr_1_2, ↓bqr_1_3, ↓bqr_1_5, ↓bqr_1_8, ↓bqr_1_10, ↓bqr_1_12, ↓bqr_1_13, ↓bqr_518_0, ↓bqr_518_1, ↓bqr_518_2, ↓bqr_518_6, ↓bqr_518_7, ↓bqr_524_0, ↓bqr_524_2, ↓bqr_524_4, ↓bqr_528_0, ↓bqr_528_1, ↓bqr_531_0, ↓bqr_531_1, ↓bqr_531_3, ↓bqr_592_0, ↓bqr_592_1, ↓bqr_592_2, ↓bqr_592_3, ↓bqr_592_4, ↓bqr_592_5, ↓bqr_592_6, ↓bqr_592_7, ↓bqr_592_11, ↓bqr_592_12, ↓bqr_592_13, ↓bqr_592_17, ↓bqr_592_18, ↓bqr_592_19, ↓bqr_592_23, ↓bqr_592_26, ↓bqr_592_27, ↓bqr_592_28, ↓bqg_0_2, ↓bqg_1_4, ↓bqg_1_6, ↓bqg_1_7, ↓bqg_1_9, ↓bqg_1_11, ↓bqg_1_14, ↓bqg_518_3, ↓bqg_518_4, ↓bqg_518_5, ↓bqg_518_8, ↓bqg_518_9, ↓bqg_524_1, ↓bqg_524_3, ↓bqg_528_2, ↓bqg_528_3, ↓bqg_531_2, ↓bqg_535_0, ↓bqg_535_1, ↓bqg_535_2, ↓bqg_535_3, ↓bqg_535_4, ↓bqg_592_8, ↓bqg_592_9, ↓bqg_592_10, ↓bqg_592_14, ↓bqg_592_15, ↓bqg_592_16, ↓bqg_592_20, ↓bqg_592_21, ↓bqg_592_22, ↓bqg_592_24, ↓bqg_592_25, ↓bqg_592_29, ↓bqg_592_30, ↓bqg_592_31, ↓bqg_592_32, ↓bqv_0, ↓bqv_1, ↓bqv_259, ↓bqv_518, ↓bqv_524, ↓bqv_528, ↓bqv_531, ↓bqv_535, ↓bqv_592, ↓bqi_2, ↓bqi_3, ↓bqi_4, ↓bqi_10, ↓bqi_519, ↓bqi_520, ↓bqi_521, ↓bqi_522, ↓bqi_523, ↓bqi_525, ↓bqi_526, ↓bqi_527, ↓bqi_529, ↓bqi_530, ↓bqi_532, ↓bqi_533, ↓bqi_534, ↓bqi_593, ↓bqi_594, ↓bqi_595, ↓bqi_596, ↓bqi_597, ↓bqi_598, ↓bqi_599, ↓bqi_600, ↓bqi_601, ↓bqi_602, ↓bqi_603, ↓bqi_604, ↓bqi_605, ↓bqi_606, ↓bqi_608, ↓bqi_609, ↓bqi_610, ↓bqz_607, ↓bqpkC_1, ↓bqpkC_2, ↓bqpkC_3, ↓bqpkC_4, ↓bqpkC_5, ↓bqpkC_6, ↓bqpkD_1, ↓bqpkN_0, ↓bqpkN_1, ↓bqpkO_1, ↓bqpkQ_1, ↓bqpkW_1, ↓bqpkS_0, ↓bqpkS_2, ↓bqpkS_3, ↓bqpkT_0, ↓bqpkT_1, ↓bqpkF_1, ↓bqpkH_1, ↓bqpkU_0, ↓bqpkU_1, ↓bqpkU_2, ↓bqpkU_3, ↓bqpkU_4, ↓bqpkY_0, ↓bqpkY_1, ↓bqpkY_2, ↓bqskE_, ↓bqskP_, ↓bqskR_, ↓bqskX_, ↓bqskG_, ↓bqskI_, ↓bqskJ_, ↓bqp_0_2, ↓bqp_1_4, ↓bqp_1_6, ↓bqp_1_7, ↓bqp_1_9, ↓bqp_1_11, ↓bqp_1_14, ↓bqp_518_3, ↓bqp_518_4, ↓bqp_518_5, ↓bqp_518_8, ↓bqp_518_9, ↓bqp_524_1, ↓bqp_524_3, ↓bqp_528_2, ↓bqp_528_3, ↓bqp_531_2, ↓bqp_535_0, ↓bqp_535_1, ↓bqp_535_2, ↓bqp_535_3, ↓bqp_535_4, ↓bqp_592_8, ↓bqp_592_9, ↓bqp_592_10, ↓bqp_592_14, ↓bqp_592_15, ↓bqp_592_16, ↓bqp_592_20, ↓bqp_592_21, ↓bqp_592_22, ↓bqp_592_24, ↓bqp_592_25, ↓bqp_592_29, ↓bqp_592_30, ↓bqp_592_31, ↓bqp_592_32, ↓bqs_2, ↓bqs_3, ↓bqs_4, ↓bqs_10, ↓bqs_519, ↓bqs_520, ↓bqs_521, ↓bqs_522, ↓bqs_523, ↓bqs_525, ↓bqs_526, ↓bqs_527, ↓bqs_529, ↓bqs_530, ↓bqs_532, ↓bqs_533, ↓bqs_534, ↓bqs_593, ↓bqs_594, ↓bqs_595, ↓bqs_596, ↓bqs_597, ↓bqs_598, ↓bqs_599, ↓bqs_600, ↓bqs_601, ↓bqs_602, ↓bqs_603, ↓bqs_604, ↓bqs_605, ↓bqs_606, ↓bqs_608, ↓bqs_609, ↓bqs_610, ↓bqt_607, ↓Option.bind_some, ↓bc_isIn, ↓bm_isIn, ↓bm_isShelf, i01, i10, j01, if_true, if_false, not_true_eq_false, not_false_eq_true, and_true, true_and, and_self, false_and, and_false, ↓reduceIte, Int.reduceEq, Int.reduceLT, Int.reduceLE, Int.reduceNeg, Int.reduceAdd, Int.reduceSub, Int.reduceMul, Int.reduceNe, Int.reduceToNat, Nat.reduceAdd, Nat.reduceMul, Nat.reduceEqDiff, vw_14 hVC, Int.lt_irrefl]
theorem c_make (hV : Vw M v) (hd : Dw_ v d) (h534 : ∀ k : Nat, (k : Int) < v 1066 → M 534 k = d k) : ∃ A, f_X4_make SH0_ M 531 1 = some A ∧ (∀ a, a ≠ 531 → a ≠ 532 → a ≠ 533 → A a = M a) ∧ (∀ x : Nat, x < 10 → A 533 x = Lw_ (pa_ v d (v 1066).toNat) x) ∧ A 531 2 = lz_ (Lw_ (pa_ v d (v 1066).toNat)) (pa_ v d (v 1066).toNat) := by
  have b14 := vb_14 hV
  obtain ⟨A, a1, a2, a3, a4⟩ := c_places hV hd h534
  obtain ⟨hpl, hpo⟩ := pa_ok hV hd (v 1066).toNat (by omega)
  rw [a1]
  generalize pa_ v d (v 1066).toNat = P at *
  have hmb : ∀ x : Int, 0 ≤ Mo_ P x ∧ Mo_ P x ≤ 200 := fun x => by
    unfold Mo_
    rcases fla_p (f := lcp_ P x) (fun y => (cp_b P).1) 10 with ⟨e1, e2⟩ | ⟨y, y1, y2, y3⟩
    · omega
    · have := cp_b (x := (x : Int)) (y := (y : Int)) P
      omega
  have hsum : su_ (Mo_ P) 10 = lz_ (Lw_ P) P := by
    rw [← su_lz P (fun p hp => (hpo p hp).1)]
    congr 1
    funext x
    exact Mo_eq (fun p hp => (hpo p hp).2.1)
  refine lp_run (A := Mem_m) (fun n x C => f_X4_make_117 SH0_ 531 n C x) 10 (fun x C => 0 ≤ x ∧ x ≤ 10 ∧ (∀ a, a ≠ 531 → a ≠ 533 → C a = A a) ∧ (∀ t : Nat, (t : Int) < x → C 533 t = Lw_ P t) ∧ C 531 2 = su_ (Mo_ P) x.toNat ∧ 0 ≤ su_ (Mo_ P) x.toNat ∧ su_ (Mo_ P) x.toNat ≤ 200 * x) (fun o => ∃ A, o = some A ∧ (∀ a, a ≠ 531 → a ≠ 532 → a ≠ 533 → A a = M a) ∧ (∀ x : Nat, x < 10 → A 533 x = Lw_ P x) ∧ A 531 2 = lz_ (Lw_ P) P) ?_ ?_ FU_ 0 A (by unfold FU_; omega) ⟨by omega, by omega, fun _ _ _ => rfl, fun t ht => absurd ht (by omega), a3, Int.le_refl _, Int.le_refl _⟩
  · intro n x C hx ⟨q1, q2, q3, q4, q5, q6, q7⟩
    obtain ⟨t, rfl⟩ := int_nat q1
    have et : ((t : Int)).toNat = t := by omega
    have et1 : ((t : Int) + 1).toNat = t + 1 := by omega
    rw [et] at q5 q6 q7
    obtain ⟨D, d1, d2, d3, d4, d5⟩ := c_law1 (P := P) (A := C) (x := t) (by omega) (by omega) (fun j hj => by rw [q3 532 (by decide) (by decide)]; exact a4 j hj) (by omega)
    have hm := hmb t
    have hs : su_ (Mo_ P) (t + 1) = su_ (Mo_ P) t + Mo_ P t := rfl
    refine Or.inl ⟨D, ?_, by omega, by omega, fun a a1 a2 => (d2 a a1 a2).trans (q3 a a1 a2), fun j hj => ?_, by rw [et1, d5, hs]; omega, by rw [et1, hs]; omega, by rw [et1, hs]; omega⟩
    · show f_X4_make_117 SH0_ 531 (n + 1) C (t : Int) = _
      rw [f_X4_make_117]
      simp (disch := omega) only [↓bqr_C, ↓bqr_D, ↓bqr_N2, ↓bqr_N3, ↓bqr_O, ↓bqr_Q, ↓bqr_W, ↓bqr_S1, ↓bqr_S4, ↓bqr_T2, ↓bqr_T3, ↓bqr_F, ↓bqr_H, ↓bqa_C, ↓bqa_N, ↓bqa_U, ↓bqa_Y, ↓bqa_W, ↓bqa_S, ↓bqgkC_1, ↓bqgkC_2, ↓bqgkC_3, ↓bqgkC_4, ↓bqgkC_5, ↓bqgkC_6, ↓bqgkD_1, ↓bqgkN_0, ↓bqgkN_1, ↓bqgkO_1, ↓bqgkQ_1, ↓bqgkW_1, ↓bqgkS_0, ↓bqgkS_2, ↓bqgkS_3, ↓bqgkT_0, ↓bqgkT_1, ↓bqgkF_1, ↓bqgkH_1, ↓bqgkU_0, ↓bqgkU_1, ↓bqgkU_2, ↓bqgkU_3, ↓bqgkU_4, ↓bqgkY_0, ↓bqgkY_1, ↓bqgkY_2, ↓bqikE_, ↓bqikP_, ↓bqikR_, ↓bqikX_, ↓bqikG_, ↓bqikI_, ↓bqikJ_, ↓bqvkC_, ↓bqvkD_, ↓bqvkN_, ↓bqvkO_, ↓bqvkQ_, ↓bqvkU_, ↓bqvkY_, ↓bqvkW_, ↓bqvkS_, ↓bqvkT_, ↓bqvkF_, ↓bqvkH_, ↓bqr_0_0, ↓bqr_0_1, ↓bqr_0_3, ↓bqr_0_4, ↓bqr_0_5, ↓bqr_0_6, ↓bqr_0_7, ↓bqr_0_8, ↓bqr_1_0, ↓bqr_1_1, ↓bqr_1_2, ↓bqr_1_3, ↓bqr_1_5, ↓bqr_1_8, ↓bqr_1_10, ↓bqr_1_12, ↓bqr_1_13, ↓bqr_518_0, ↓bqr_518_1, ↓bqr_518_2, ↓bqr_518_6, ↓bqr_518_7, ↓bqr_524_0, ↓bqr_524_2, ↓bqr_524_4, ↓bqr_528_0, ↓bqr_528_1, ↓bqr_531_0, ↓bqr_531_1, ↓bqr_531_3, ↓bqr_592_0, ↓bqr_592_1, ↓bqr_592_2, ↓bqr_592_3, ↓bqr_592_4, ↓bqr_592_5, ↓bqr_592_6, ↓bqr_592_7, ↓bqr_592_11, ↓bqr_592_12, ↓bqr_592_13, ↓bqr_592_17, ↓bqr_592_18, ↓bqr_592_19, ↓bqr_592_23, ↓bqr_592_26, ↓bqr_592_27, ↓bqr_592_28, ↓bqg_0_2, ↓bqg_1_4, ↓bqg_1_6, ↓bqg_1_7, ↓bqg_1_9, ↓bqg_1_11, ↓bqg_1_14, ↓bqg_518_3, ↓bqg_518_4, ↓bqg_518_5, ↓bqg_518_8, ↓bqg_518_9, ↓bqg_524_1, ↓bqg_524_3, ↓bqg_528_2, ↓bqg_528_3, ↓bqg_531_2, ↓bqg_535_0, ↓bqg_535_1, ↓bqg_535_2, ↓bqg_535_3, ↓bqg_535_4, ↓bqg_592_8, ↓bqg_592_9, ↓bqg_592_10, ↓bqg_592_14, ↓bqg_592_15, ↓bqg_592_16, ↓bqg_592_20, ↓bqg_592_21, ↓bqg_592_22, ↓bqg_592_24, ↓bqg_592_25, ↓bqg_592_29, ↓bqg_592_30, ↓bqg_592_31, ↓bqg_592_32, ↓bqv_0, ↓bqv_1, ↓bqv_259, ↓bqv_518, ↓bqv_524, ↓bqv_528, ↓bqv_531, ↓bqv_535, ↓bqv_592, ↓bqi_2, ↓bqi_3, ↓bqi_4, ↓bqi_10, ↓bqi_519, ↓bqi_520, ↓bqi_521, ↓bqi_522, ↓bqi_523, ↓bqi_525, ↓bqi_526, ↓bqi_527, ↓bqi_529, ↓bqi_530, ↓bqi_532, ↓bqi_533, ↓bqi_534, ↓bqi_593, ↓bqi_594, ↓bqi_595, ↓bqi_596, ↓bqi_597, ↓bqi_598, ↓bqi_599, ↓bqi_600, ↓bqi_601, ↓bqi_602, ↓bqi_603, ↓bqi_604, ↓bqi_605, ↓bqi_606, ↓bqi_608, ↓bqi_609, ↓bqi_610, ↓bqz_607, ↓Option.bind_some, ↓bc_isIn, ↓bm_isIn, ↓bm_isShelf, i01, i10, j01, if_true, if_false, not_true_eq_false, not_false_eq_true, and_true, true_and, and_self, false_and, and_false, ↓reduceIte, Int.reduceEq, Int.reduceLT, Int.reduceLE, Int.reduceNeg, Int.reduceAdd, Int.reduceSub, Int.reduceMul, Int.reduceNe, Int.reduceToNat, Nat.reduceAdd, Nat.reduceMul, Nat.reduceEqDiff, hx, ↓bnd d1, wr_n]
    · by_cases e : j = t
      · subst e; exact d4
      · rw [d3 j e]; exact q4 j (by omega)
  · intro n x C hx ⟨q1, q2, q3, q4, q5, q6, q7⟩
    have ex : x = 10 := by omega
    subst ex
    refine ⟨C, ?_, fun a a1' a2' a3' => (q3 a a1' a3').trans (a2 a a1' a2'), fun x hx => q4 x (by omega), by rw [q5, ← hsum]; rfl⟩
    show f_X4_make_117 SH0_ 531 (n + 1) C 10 = _
    rw [f_X4_make_117, if_neg (by decide)]
end
