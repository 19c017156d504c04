/-! the shape of the world when all is made: the class's 592 cells, then the reference's 19, then the law's row of one long -/
def kB_ (o : Nat) : Nat × Nat :=
  if o < 10 then (match o with | 0 => (0, 0) | 1 => (20, 10) | 2 => (20, 8) | 3 => (20, 8) | 4 => (22, 40) | 5 => (23, 16) | 6 => (24, 8) | 7 => (25, 20) | 8 => (26, 10) | _ => (20, 10))
  else if o < 130 then (match (o - 10) % 3 with | 0 => (1, 0) | 1 => (10, 0) | _ => (20, 8))
  else if o < 210 then (match (o - 130) % 5 with | 0 => (5, 0) | 1 => (10, 0) | 2 => (20, 8) | 3 => (10, 0) | _ => (20, 8))
  else if o < 218 then (7, 0)
  else if o < 238 then (8, 0)
  else (match (o - 238) % 2 with | 0 => (10, 0) | _ => (20, 8))
def kd0_ (a : Nat) : Nat × Nat :=
  if a = 0 then (11, 0)
  else if a < 259 then kB_ (a - 1)
  else if a < 517 then kB_ (a - 259)
  else if a < 536 then (match a - 517 with | 0 => (27, 8) | 1 => (2, 0) | 2 => (20, 72) | 3 => (20, 9) | 4 => (20, 8) | 5 => (20, 1024) | 6 => (20, 1024) | 7 => (3, 0) | 8 => (20, 80) | 9 => (20, 3) | 10 => (20, 10) | 11 => (6, 0) | 12 => (20, 16) | 13 => (20, 4) | 14 => (4, 0) | 15 => (20, 100) | 16 => (20, 10) | 17 => (20, 10) | _ => (7, 0))
  else if a < 592 then (match (a - 536) % 7 with | 0 => (9, 0) | 1 => (5, 0) | 2 => (10, 0) | 3 => (20, 8) | 4 => (10, 0) | 5 => (20, 8) | _ => (20, 80))
  else (match a - 592 with | 0 => (12, 0) | 1 => (20, 1067) | 2 => (20, 1067) | 3 => (20, 8) | 4 => (20, 8) | 5 => (20, 8) | 6 => (20, 640) | 7 => (20, 8) | 8 => (20, 8) | 9 => (20, 9) | 10 => (20, 9) | 11 => (20, 10) | 12 => (20, 8) | 13 => (20, 80) | 14 => (20, 80) | 15 => (21, 24) | 16 => (20, 10) | 17 => (20, 100) | 18 => (20, 10) | _ => (28, 1))
/-- what slot k of a cell of a kind refers to, plus 2; 0: a number -/
def rfK_ (t a k : Nat) : Nat := match t with
  | 0 => (match k with | 0 => a + 1 + 2 | 1 => a + 2 + 2 | 2 => a + 3 + 2 | 3 => a + 4 + 2 | 5 => a + 5 + 2 | 8 => a + 6 + 2 | 10 => a + 7 + 2 | 12 => a + 8 + 2 | 13 => a + 9 + 2 | _ => 0)
  | 1 => (match k with | 0 => a + 1 + 2 | _ => 0)
  | 2 => (match k with | 0 => a + 1 + 2 | 1 => a + 2 + 2 | 2 => a + 3 + 2 | 6 => a + 4 + 2 | 7 => a + 5 + 2 | _ => 0)
  | 3 => (match k with | 0 => a + 1 + 2 | 2 => a + 2 + 2 | 4 => a + 3 + 2 | _ => 0)
  | 4 => (match k with | 0 => a + 1 + 2 | 1 => a + 2 + 2 | 3 => a + 3 + 2 | _ => 0)
  | 5 => (match k with | 2 => a + 1 + 2 | 3 => a + 3 + 2 | _ => 0)
  | 6 => (match k with | 0 => a + 1 + 2 | 1 => a + 2 + 2 | _ => 0)
  | 9 => (match k with | 1 => a + 1 + 2 | 4 => a + 6 + 2 | _ => 0)
  | 10 => (match k with | 0 => a + 1 + 2 | _ => 0)
  | 11 => (match k with | 0 => 1 + 2 | 1 => 259 + 2 | 3 => 517 + 2 | 4 => 518 + 2 | 5 => 524 + 2 | 6 => 528 + 2 | 7 => 531 + 2 | 8 => 535 + 2 | _ => 0)
  | 12 => (match k with | 0 => a + 1 + 2 | 1 => a + 2 + 2 | 2 => a + 3 + 2 | 3 => a + 4 + 2 | 4 => a + 5 + 2 | 5 => a + 6 + 2 | 6 => a + 7 + 2 | 7 => a + 8 + 2 | 11 => a + 9 + 2 | 12 => a + 10 + 2 | 13 => a + 11 + 2 | 17 => a + 12 + 2 | 18 => a + 13 + 2 | 19 => a + 14 + 2 | 23 => a + 15 + 2 | 26 => a + 16 + 2 | 27 => a + 17 + 2 | 28 => a + 18 + 2 | _ => 0)
  | 22 => if k < 40 then a + 6 + 3 * k + 2 else 0
  | 23 => if k < 16 then a + 125 + 5 * k + 2 else 0
  | 24 => if k < 8 then a + 204 + k + 2 else 0
  | 25 => if k < 20 then a + 211 + k + 2 else 0
  | 26 => if k < 10 then a + 230 + 2 * k + 2 else 0
  | 27 => if k < 8 then a + 19 + 7 * k + 2 else 0
  | _ => 0
def SH0_ : SH_s := (612, kd0_, fun a k => rfK_ (kd0_ a).1 a k)
abbrev G0_ (B : Nat) (D : va_G) (ca : Nat → ClassId) : GT_g := (B, D, ca, SH0_)
theorem up_eq {E : Nat → va_E} {a : Nat} {e : va_E} : up_E E a e a = e := by unfold up_E; rw [if_pos rfl]
theorem up_ne {E : Nat → va_E} {a x : Nat} {e : va_E} (h : x ≠ a) : up_E E a e x = E x := by unfold up_E; rw [if_neg h]
theorem fr_5 : fresh_ 5 = [.int 0, .int 0, .null, .null] := rfl
theorem cE_o {B : Nat} {D : va_G} {ca : Nat → ClassId} {M : Mem_m} {a ci : Nat} {fs : List Value} (hk : (kd0_ a).1 = ci) (hc : ci < 13) (hf : (List.range (nf_c ci)).map (fun k => match rfK_ ci a k with | 0 => iv_i (M a k) | 1 => Value.null | r + 2 => Value.ref (B + r)) = fs) : cE_c (G0_ B D ca) M a = .inr (ci, fs) := by
  rw [cE_obj (G := G0_ B D ca) (ci := ci) hk hc, ← hf]
  congr 2
  apply List.map_congr_left
  intro k _
  show (match rfK_ (kd0_ a).1 a k with | 0 => iv_i (M a k) | 1 => Value.null | r + 2 => Value.ref (B + r)) = _
  rw [hk]
theorem cE_i {B : Nat} {D : va_G} {ca : Nat → ClassId} {M : Mem_m} {a N : Nat} (hk : kd0_ a = (20, N)) (hm : M a = fun _ => 0) : cE_c (G0_ B D ca) M a = .inl (ca 0, N, .inl (fun _ => 0)) := by
  rw [cE_int (G := G0_ B D ca) (by show (kd0_ a).1 = 20; rw [hk])]
  show Sum.inl (ca 0, (kd0_ a).2, _) = _
  rw [hk, hm]; rfl
theorem cE_z {B : Nat} {D : va_G} {ca : Nat → ClassId} {M : Mem_m} {a N : Nat} (hk : kd0_ a = (21, N)) (hm : M a = fun _ => 0) : cE_c (G0_ B D ca) M a = .inl (ca 1, N, .inl (fun _ => 0)) := by
  rw [cE_boo (G := G0_ B D ca) (by show (kd0_ a).1 = 21; rw [hk])]
  show Sum.inl (ca 1, (kd0_ a).2, _) = _
  rw [hk, hm]; rfl
