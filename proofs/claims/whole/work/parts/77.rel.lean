/-! the relation between the class's memory and the reference's -/
/-- the sayings there are: the code that the reference keeps, the orders that fit it -/
def vc_l : List (Int × Int) := [(1, 16777215), (2, 16777215), (3, 16777215), (4, 16777215), (11, 5058623), (16, 1836287), (21, 29183), (7, 11718592), (17, 3411923), (22, 57287), (8, 14940928), (13, 13365292), (23, 258893), (9, 16748032), (14, 16719928), (19, 16518322), (86, 262163), (111, 4103), (66, 524332), (116, 77), (71, 8248), (96, 178), (82, 1049792), (107, 16832), (42, 2099968), (117, 833), (47, 36352), (97, 3202), (58, 4272128), (108, 28928), (38, 8568832), (113, 53252), (48, 229888), (73, 204808), (59, 5046272), (84, 1836032), (39, 11665408), (89, 3407888), (44, 14682112), (69, 13107232), (586, 1), (486, 2), (566, 4), (366, 8), (446, 16), (346, 32), (582, 64), (482, 128), (542, 256), (242, 512), (422, 1024), (222, 2048), (558, 4096), (358, 8192), (538, 16384), (238, 32768), (298, 65536), (198, 131072), (434, 262144), (334, 524288), (414, 1048576), (214, 2097152), (294, 4194304), (194, 8388608)]
/-- bit k of u -/
def bt_ (u k : Int) : Int := an_i (sr_i u k) 1
def Rcard (b : Nat) (M : Mem_m) (v : Nat → Int) (x : Int) : Prop :=
  (1 ≤ M (cA_ b x + 1) 1 ∧ M (cA_ b x + 1) 1 ≤ 8 ∧ v (15 * x.toNat) = M (cA_ b x + 1) 1) ∧
  (∀ i : Int, 0 ≤ i → i < M (cA_ b x + 1) 1 → v (15 * x.toNat + 1 + i.toNat) = M (cA_ b x + 2) i.toNat ∧ 0 ≤ M (cA_ b x + 2) i.toNat ∧ M (cA_ b x + 2) i.toNat ≤ 9) ∧
  (v (15 * x.toNat + 9) = M (cA_ b x) 1 ∧ 0 ≤ M (cA_ b x) 1 ∧ M (cA_ b x) 1 ≤ 1023) ∧
  (v (15 * x.toNat + 10) = M (cA_ b x) 2 ∧ 0 ≤ M (cA_ b x) 2 ∧ M (cA_ b x) 2 ≤ 7) ∧
  (v (15 * x.toNat + 11) = M (cA_ b x) 3 ∧ 0 ≤ M (cA_ b x) 3 ∧ M (cA_ b x) 3 ≤ 3) ∧
  (v (15 * x.toNat + 12) = M (cA_ b x) 4 ∧ 0 ≤ M (cA_ b x) 4 ∧ M (cA_ b x) 4 ≤ 999) ∧
  (v (15 * x.toNat + 13) = M (cA_ b x) 5 ∧ (M (cA_ b x) 5 = 0 ∨ M (cA_ b x) 5 = 1)) ∧
  (v (15 * x.toNat + 14) = M (cA_ b x) 6 ∧ 0 ≤ M (cA_ b x) 6 ∧ M (cA_ b x) 6 ≤ 2)
def Rnote (b : Nat) (M : Mem_m) (v : Nat → Int) (x : Int) : Prop :=
  M (nA_ b x) 0 = x ∧
  (v (600 + 7 * x.toNat) = M (nA_ b x) 1 ∧ 0 ≤ M (nA_ b x) 1 ∧ M (nA_ b x) 1 ≤ 4) ∧
  (v (600 + 7 * x.toNat + 1) = M (nA_ b x + 1) 1 ∧ 1 ≤ M (nA_ b x + 1) 1 ∧ M (nA_ b x + 1) 1 ≤ 4) ∧
  (∀ i : Int, 0 ≤ i → i < M (nA_ b x + 1) 1 → v (600 + 7 * x.toNat + 2 + i.toNat) = M (nA_ b x + 2) i.toNat ∧ 0 ≤ M (nA_ b x + 2) i.toNat ∧ M (nA_ b x + 2) i.toNat ≤ 9) ∧
  M (nA_ b x + 3) 1 = (if M (nA_ b x) 1 = 3 then 2 * M (nA_ b x + 1) 1 else M (nA_ b x + 1) 1) ∧
  (∀ i : Int, 0 ≤ i → i < M (nA_ b x + 3) 1 → M (nA_ b x + 4) i.toNat = M (nA_ b x + 2) (i % M (nA_ b x + 1) 1).toNat) ∧
  v (600 + 7 * x.toNat + 6) = bt_ (M b 7) x
/-- a place of a rule: the class's one number, the reference's two -/
def Rplace (w t u : Int) : Prop := (0 ≤ w ∧ w ≤ 9 ∧ t = 0 ∧ u = w) ∨ (10 ≤ w ∧ w ≤ 13 ∧ t = 1 ∧ u = w - 10) ∨ (w = 14 ∧ t = 2) ∨ (w = 15 ∧ t = 3)
def Rrule (b : Nat) (M : Mem_m) (v : Nat → Int) (x : Int) : Prop :=
  (Rplace (M (rA_ b x) 0) (v (712 + 8 * x.toNat)) (v (712 + 8 * x.toNat + 1)) ∧ M (rA_ b x) 0 ≤ 13) ∧
  ((0 ≤ M (rA_ b x) 1 ∧ M (rA_ b x) 1 ≤ 9 ∧ v (712 + 8 * x.toNat + 2) = 0 ∧ v (712 + 8 * x.toNat + 3) = M (rA_ b x) 1) ∨ (M (rA_ b x) 1 = 16 ∧ v (712 + 8 * x.toNat + 2) = 2)) ∧
  Rplace (M (rA_ b x) 2) (v (712 + 8 * x.toNat + 4)) (v (712 + 8 * x.toNat + 5)) ∧
  Rplace (M (rA_ b x) 3) (v (712 + 8 * x.toNat + 6)) (v (712 + 8 * x.toNat + 7))
def Rsaying (b : Nat) (M : Mem_m) (v : Nat → Int) (x : Int) : Prop :=
  (v (776 + 8 * x.toNat + 5) = M (yA_ b x) 0 ∧ 0 ≤ M (yA_ b x) 0 ∧ M (yA_ b x) 0 ≤ 7) ∧
  (v (776 + 8 * x.toNat + 6) = M (yA_ b x) 1 ∧ 0 ≤ M (yA_ b x) 1 ∧ M (yA_ b x) 1 ≤ 999) ∧
  ∃ m : Int, (v (776 + 8 * x.toNat), m) ∈ vc_l ∧ ((v (776 + 8 * x.toNat + 7) = 1 ∧ M (yA_ b x) 2 = m) ∨ (v (776 + 8 * x.toNat + 7) = 0 ∧ M (yA_ b x) 2 = an_i 16777215 (xo_i m (-1))))
def Rword (b : Nat) (M : Mem_m) (v : Nat → Int) (x : Int) : Prop :=
  (v (936 + 10 * x.toNat) = M (wA_ b x) 1 ∧ 1 ≤ M (wA_ b x) 1 ∧ M (wA_ b x) 1 ≤ 8) ∧
  (∀ i : Int, 0 ≤ i → i < M (wA_ b x) 1 → v (936 + 10 * x.toNat + 1 + i.toNat) = M (wA_ b x + 1) i.toNat ∧ 0 ≤ M (wA_ b x + 1) i.toNat ∧ M (wA_ b x + 1) i.toNat ≤ 9) ∧
  (v (936 + 10 * x.toNat + 9) = M (b + 9) x.toNat ∧ 0 ≤ M (b + 9) x.toNat ∧ M (b + 9) x.toNat < M b 4)
def RelB (b : Nat) (M : Mem_m) (v : Nat → Int) : Prop :=
  ((0 ≤ M b 4 ∧ M b 4 ≤ 40 ∧ v 1062 = M b 4) ∧ ∀ x : Int, 0 ≤ x → x < M b 4 → Rcard b M v x) ∧
  ((0 ≤ M b 6 ∧ M b 6 ≤ 16 ∧ v 1063 = M b 6) ∧ (0 ≤ M b 7 ∧ M b 7 < 2 ^ (M b 6).toNat) ∧ ∀ x : Int, 0 ≤ x → x < M b 6 → Rnote b M v x) ∧
  ((0 ≤ M b 9 ∧ M b 9 ≤ 8 ∧ v 1064 = M b 9) ∧ ∀ x : Int, 0 ≤ x → x < M b 9 → Rrule b M v x) ∧
  ((0 ≤ M b 11 ∧ M b 11 ≤ 20 ∧ v 1065 = M b 11) ∧ ∀ x : Int, 0 ≤ x → x < M b 11 → Rsaying b M v x) ∧
  ((0 ≤ M b 14 ∧ M b 14 ≤ 10 ∧ v 1066 = M b 14) ∧ ∀ x : Int, 0 ≤ x → x < M b 14 → Rword b M v x) ∧
  (∀ k : Int, 0 ≤ k → k < 10 → v (1036 + k.toNat) = M (b + 1) k.toNat ∧ 0 ≤ M (b + 1) k.toNat ∧ M (b + 1) k.toNat ≤ 3) ∧
  (∀ k : Int, 0 ≤ k → k < 8 → v (1046 + k.toNat) = M (b + 2) k.toNat ∧ 0 ≤ M (b + 2) k.toNat ∧ M (b + 2) k.toNat ≤ 3) ∧
  (∀ k : Int, 0 ≤ k → k < 8 → v (1054 + k.toNat) = M (b + 3) k.toNat ∧ 0 ≤ M (b + 3) k.toNat ∧ M (b + 3) k.toNat ≤ 99)
abbrev sA_ (d : Int) : Nat := 536 + 7 * d.toNat
/-- what a note of a kind is told in, and what a shelf with it answers to a toss -/
def ln_ (kind size : Int) : Int := if kind = 1 then size + 3 else if kind = 2 then size + 1 else if kind = 3 then 2 * size + 1 else if kind = 4 then size + 6 else size + 1
def tf_ (num kind size first : Int) : Int := if kind = 2 then -15 else if size < 2 then -15 else if kind = 3 then first else if kind = 4 then num + 100 else num
def Rshelf (M : Mem_m) (d : Int) : Prop :=
  (M 595 d.toNat = M (sA_ d) 0 ∧ 0 ≤ M (sA_ d) 0 ∧ M (sA_ d) 0 ≤ 2) ∧
  (M (sA_ d) 0 = 2 → (M 596 d.toNat = M (sA_ d) 2 ∧ 0 ≤ M (sA_ d) 2 ∧ M (sA_ d) 2 ≤ 2) ∧ (M 597 d.toNat = M (sA_ d) 3 ∧ 0 ≤ M (sA_ d) 3 ∧ M (sA_ d) 3 ≤ 80) ∧ ∀ i : Int, 0 ≤ i → i < M (sA_ d) 3 → M 598 (80 * d.toNat + i.toNat) = M (sA_ d + 6) i.toNat) ∧
  (M (sA_ d) 0 = 1 → (0 ≤ M (sA_ d + 1) 0 ∧ M (sA_ d + 1) 0 ≤ 15) ∧ (0 ≤ M (sA_ d + 1) 1 ∧ M (sA_ d + 1) 1 ≤ 4) ∧ (1 ≤ M (sA_ d + 2) 1 ∧ M (sA_ d + 2) 1 ≤ 4) ∧ M 599 d.toNat = ln_ (M (sA_ d + 1) 1) (M (sA_ d + 2) 1) ∧ M 600 d.toNat = tf_ (M (sA_ d + 1) 0) (M (sA_ d + 1) 1) (M (sA_ d + 2) 1) (M (sA_ d + 3) 0))
def R_ (M : Mem_m) : Prop :=
  RelB 1 M (M 593) ∧ (M 0 2 = M 592 8 ∧ (M 0 2 = 0 ∨ M 0 2 = 1)) ∧ (M 0 2 = 1 → RelB 259 M (M 594)) ∧ (∀ d : Int, 0 ≤ d → d < 8 → Rshelf M d) ∧ (List.range 16).map (M 529) = be_l
