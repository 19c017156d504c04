/-! by program: what every method does, as a function over the memory, out of its bytecode -/
def f_X10_take (S : SH_s) (M : Mem_m) (x0 : Nat) (x1 : Nat) : Option Mem_m :=
  (gI_ S M x1 10 1).bind fun v1 =>
  (pI_ S M x0 10 1 v1).bind fun M2 =>
  (gR_ S x1 10 0).bind fun v3 =>
  (gR_ S x0 10 0).bind fun v4 =>
  (cp_ S M2 v3 0 v4 0 8).bind fun M5 =>
  some M5
def f_X1_take (S : SH_s) (M : Mem_m) (x0 : Nat) (x1 : Nat) : Option Mem_m :=
  (gR_ S x0 1 0).bind fun v1 =>
  (gR_ S x1 1 0).bind fun v2 =>
  (vc_ S v1 10 (f_X10_take S M v1 v2)).bind fun M3 =>
  (gI_ S M3 x1 1 1).bind fun v4 =>
  (pI_ S M3 x0 1 1 v4).bind fun M5 =>
  (gI_ S M5 x1 1 2).bind fun v6 =>
  (pI_ S M5 x0 1 2 v6).bind fun M7 =>
  (gI_ S M7 x1 1 3).bind fun v8 =>
  (pI_ S M7 x0 1 3 v8).bind fun M9 =>
  (gI_ S M9 x1 1 4).bind fun v10 =>
  (pI_ S M9 x0 1 4 v10).bind fun M11 =>
  (gI_ S M11 x1 1 5).bind fun v12 =>
  (pZ_ S M11 x0 1 5 v12).bind fun M13 =>
  (gI_ S M13 x1 1 6).bind fun v14 =>
  (pI_ S M13 x0 1 6 v14).bind fun M15 =>
  some M15
def f_X5_take (S : SH_s) (M : Mem_m) (x0 : Nat) (x1 : Nat) : Option Mem_m :=
  (gI_ S M x1 5 0).bind fun v1 =>
  (pI_ S M x0 5 0 v1).bind fun M2 =>
  (gI_ S M2 x1 5 1).bind fun v3 =>
  (pI_ S M2 x0 5 1 v3).bind fun M4 =>
  (gR_ S x0 5 2).bind fun v5 =>
  (gR_ S x1 5 2).bind fun v6 =>
  (vc_ S v5 10 (f_X10_take S M4 v5 v6)).bind fun M7 =>
  (gR_ S x0 5 3).bind fun v8 =>
  (gR_ S x1 5 3).bind fun v9 =>
  (vc_ S v8 10 (f_X10_take S M7 v8 v9)).bind fun M10 =>
  some M10
def f_X7_take (S : SH_s) (M : Mem_m) (x0 : Nat) (x1 : Nat) : Option Mem_m :=
  (gI_ S M x1 7 0).bind fun v1 =>
  (pI_ S M x0 7 0 v1).bind fun M2 =>
  (gI_ S M2 x1 7 1).bind fun v3 =>
  (pI_ S M2 x0 7 1 v3).bind fun M4 =>
  (gI_ S M4 x1 7 2).bind fun v5 =>
  (pI_ S M4 x0 7 2 v5).bind fun M6 =>
  (gI_ S M6 x1 7 3).bind fun v7 =>
  (pI_ S M6 x0 7 3 v7).bind fun M8 =>
  some M8
def f_X8_take (S : SH_s) (M : Mem_m) (x0 : Nat) (x1 : Nat) : Option Mem_m :=
  (gI_ S M x1 8 0).bind fun v1 =>
  (pI_ S M x0 8 0 v1).bind fun M2 =>
  (gI_ S M2 x1 8 1).bind fun v3 =>
  (pI_ S M2 x0 8 1 v3).bind fun M4 =>
  (gI_ S M4 x1 8 2).bind fun v5 =>
  (pI_ S M4 x0 8 2 v5).bind fun M6 =>
  some M6
def f_X0_take_234 (S : SH_s) (x0 : Nat) (x1 : Nat) : Nat → Mem_m → Int → Option Mem_m
  | 0, _, _ => none
  | n + 1, M, x2 =>
  (gI_ S M x0 0 14).bind fun v1 =>
  if x2 < v1 then
    (gR_ S x0 0 12).bind fun v2 =>
    (aR_ S v2 26 x2).bind fun v3 =>
    (gR_ S x1 0 12).bind fun v4 =>
    (aR_ S v4 26 x2).bind fun v5 =>
    (vc_ S v3 10 (f_X10_take S M v3 v5)).bind fun M6 =>
    f_X0_take_234 S x0 x1 n M6 (wr_i (x2 + 1))
  else
    some M
def f_X0_take_195 (S : SH_s) (x0 : Nat) (x1 : Nat) : Nat → Mem_m → Int → Option Mem_m
  | 0, _, _ => none
  | n + 1, M, x2 =>
  (gI_ S M x0 0 11).bind fun v1 =>
  if x2 < v1 then
    (gR_ S x0 0 10).bind fun v2 =>
    (aR_ S v2 25 x2).bind fun v3 =>
    (gR_ S x1 0 10).bind fun v4 =>
    (aR_ S v4 25 x2).bind fun v5 =>
    (vc_ S v3 8 (f_X8_take S M v3 v5)).bind fun M6 =>
    f_X0_take_195 S x0 x1 n M6 (wr_i (x2 + 1))
  else
    (gI_ S M x1 0 14).bind fun v7 =>
    (pI_ S M x0 0 14 v7).bind fun M8 =>
    f_X0_take_234 S x0 x1 FU_ M8 0
def f_X0_take_156 (S : SH_s) (x0 : Nat) (x1 : Nat) : Nat → Mem_m → Int → Option Mem_m
  | 0, _, _ => none
  | n + 1, M, x2 =>
  (gI_ S M x0 0 9).bind fun v1 =>
  if x2 < v1 then
    (gR_ S x0 0 8).bind fun v2 =>
    (aR_ S v2 24 x2).bind fun v3 =>
    (gR_ S x1 0 8).bind fun v4 =>
    (aR_ S v4 24 x2).bind fun v5 =>
    (vc_ S v3 7 (f_X7_take S M v3 v5)).bind fun M6 =>
    f_X0_take_156 S x0 x1 n M6 (wr_i (x2 + 1))
  else
    (gI_ S M x1 0 11).bind fun v7 =>
    (pI_ S M x0 0 11 v7).bind fun M8 =>
    f_X0_take_195 S x0 x1 FU_ M8 0
def f_X0_take_117 (S : SH_s) (x0 : Nat) (x1 : Nat) : Nat → Mem_m → Int → Option Mem_m
  | 0, _, _ => none
  | n + 1, M, x2 =>
  (gI_ S M x0 0 6).bind fun v1 =>
  if x2 < v1 then
    (gR_ S x0 0 5).bind fun v2 =>
    (aR_ S v2 23 x2).bind fun v3 =>
    (gR_ S x1 0 5).bind fun v4 =>
    (aR_ S v4 23 x2).bind fun v5 =>
    (vc_ S v3 5 (f_X5_take S M v3 v5)).bind fun M6 =>
    f_X0_take_117 S x0 x1 n M6 (wr_i (x2 + 1))
  else
    (gI_ S M x1 0 9).bind fun v7 =>
    (pI_ S M x0 0 9 v7).bind fun M8 =>
    f_X0_take_156 S x0 x1 FU_ M8 0
def f_X0_take_70 (S : SH_s) (x0 : Nat) (x1 : Nat) : Nat → Mem_m → Int → Option Mem_m
  | 0, _, _ => none
  | n + 1, M, x2 =>
  (gI_ S M x0 0 4).bind fun v1 =>
  if x2 < v1 then
    (gR_ S x0 0 3).bind fun v2 =>
    (aR_ S v2 22 x2).bind fun v3 =>
    (gR_ S x1 0 3).bind fun v4 =>
    (aR_ S v4 22 x2).bind fun v5 =>
    (vc_ S v3 1 (f_X1_take S M v3 v5)).bind fun M6 =>
    f_X0_take_70 S x0 x1 n M6 (wr_i (x2 + 1))
  else
    (gI_ S M x1 0 7).bind fun v7 =>
    (pI_ S M x0 0 7 v7).bind fun M8 =>
    (gI_ S M8 x1 0 6).bind fun v9 =>
    (pI_ S M8 x0 0 6 v9).bind fun M10 =>
    f_X0_take_117 S x0 x1 FU_ M10 0
def f_X0_take (S : SH_s) (M : Mem_m) (x0 : Nat) (x1 : Nat) : Option Mem_m :=
  (gR_ S x1 0 0).bind fun v1 =>
  (gR_ S x0 0 0).bind fun v2 =>
  (cp_ S M v1 0 v2 0 10).bind fun M3 =>
  (gR_ S x1 0 1).bind fun v4 =>
  (gR_ S x0 0 1).bind fun v5 =>
  (cp_ S M3 v4 0 v5 0 8).bind fun M6 =>
  (gR_ S x1 0 2).bind fun v7 =>
  (gR_ S x0 0 2).bind fun v8 =>
  (cp_ S M6 v7 0 v8 0 8).bind fun M9 =>
  (gR_ S x1 0 13).bind fun v10 =>
  (gR_ S x0 0 13).bind fun v11 =>
  (cp_ S M9 v10 0 v11 0 10).bind fun M12 =>
  (gI_ S M12 x1 0 4).bind fun v13 =>
  (pI_ S M12 x0 0 4 v13).bind fun M14 =>
  f_X0_take_70 S x0 x1 FU_ M14 0
def f_X0_keptCards_4 (S : SH_s) (M : Mem_m) (x0 : Nat) : Nat → Int → Int → Option Int
  | 0, _, _ => none
  | n + 1, x1, x2 =>
  (gI_ S M x0 0 4).bind fun v1 =>
  if x2 < v1 then
    (gR_ S x0 0 3).bind fun v2 =>
    (aR_ S v2 22 x2).bind fun v3 =>
    (gI_ S M v3 1 6).bind fun v4 =>
    if v4 = 0 then
      f_X0_keptCards_4 S M x0 n (wr_i (x1 + 1)) (wr_i (x2 + 1))
    else
      f_X0_keptCards_4 S M x0 n x1 (wr_i (x2 + 1))
  else
    some x1
def f_X0_keptCards (S : SH_s) (M : Mem_m) (x0 : Nat) : Option Int :=
  f_X0_keptCards_4 S M x0 FU_ 0 0
def f_X1_isCounted (S : SH_s) (M : Mem_m) (x0 : Nat) : Option Int :=
  (gI_ S M x0 1 5).bind fun v1 =>
  if v1 = 0 then
    some 0
  else
    (gI_ S M x0 1 6).bind fun v2 =>
    if v2 = 0 then
      some 1
    else
      some 0
def f_X0_isToldPair (S : SH_s) (M : Mem_m) (x0 : Nat) (x1 : Nat) : Option Int :=
  (vc_ S x0 1 (f_X1_isCounted S M x0)).bind fun v1 =>
  if v1 = 0 then
    some 0
  else
    (vc_ S x1 1 (f_X1_isCounted S M x1)).bind fun v2 =>
    if v2 = 0 then
      some 0
    else
      (gI_ S M x0 1 1).bind fun v3 =>
      if v3 = 0 then
        some 0
      else
        (gI_ S M x1 1 1).bind fun v4 =>
        if v4 = 0 then
          some 0
        else
          (gI_ S M x0 1 1).bind fun v5 =>
          (gI_ S M x1 1 1).bind fun v6 =>
          if v5 = v6 then
            some 0
          else
            some 1
def f_X1_differsOnlyBy_28 (S : SH_s) (M : Mem_m) (x0 : Nat) (x1 : Nat) (x2 : Int) (x3 : Int) : Nat → Int → Int → Int → Option Int
  | 0, _, _, _ => none
  | n + 1, x4, x5, x6 =>
  (gR_ S x0 1 0).bind fun v1 =>
  (gI_ S M v1 10 1).bind fun v2 =>
  if x6 < v2 then
    (gR_ S x0 1 0).bind fun v3 =>
    (gR_ S v3 10 0).bind fun v4 =>
    (aI_ S M v4 x6).bind fun v5 =>
    (gR_ S x1 1 0).bind fun v6 =>
    (gR_ S v6 10 0).bind fun v7 =>
    (aI_ S M v7 x6).bind fun v8 =>
    if v5 = v8 then
      f_X1_differsOnlyBy_28 S M x0 x1 x2 x3 n x4 x5 (wr_i (x6 + 1))
    else
      if v5 = x2 then
        if v8 = x3 then
          f_X1_differsOnlyBy_28 S M x0 x1 x2 x3 n (wr_i (x4 + 1)) 1 (wr_i (x6 + 1))
        else
          f_X1_differsOnlyBy_28 S M x0 x1 x2 x3 n (wr_i (x4 + 1)) 0 (wr_i (x6 + 1))
      else
        f_X1_differsOnlyBy_28 S M x0 x1 x2 x3 n (wr_i (x4 + 1)) 0 (wr_i (x6 + 1))
  else
    if x4 = 1 then
      if x5 = 0 then
        some 0
      else
        some 1
    else
      some 0
def f_X1_differsOnlyBy (S : SH_s) (M : Mem_m) (x0 : Nat) (x1 : Nat) (x2 : Int) (x3 : Int) : Option Int :=
  (gR_ S x0 1 0).bind fun v1 =>
  (gI_ S M v1 10 1).bind fun v2 =>
  (gR_ S x1 1 0).bind fun v3 =>
  (gI_ S M v3 10 1).bind fun v4 =>
  if v2 = v4 then
    f_X1_differsOnlyBy_28 S M x0 x1 x2 x3 FU_ 0 0 0
  else
    some 0
def f_X0_areTwo_13 (S : SH_s) (k_2 : Int → Option Int) (M : Mem_m) (x0 : Nat) (x1 : Int) (x2 : Int) (x3 : Int) : Nat → Int → Option Int
  | 0, _ => none
  | n + 1, x4 =>
  (gI_ S M x0 0 4).bind fun v1 =>
  if x4 < v1 then
    (gR_ S x0 0 3).bind fun v2 =>
    (aR_ S v2 22 x3).bind fun v3 =>
    (gR_ S x0 0 3).bind fun v4 =>
    (aR_ S v4 22 x4).bind fun v5 =>
    (f_X0_isToldPair S M v3 v5).bind fun v6 =>
    if v6 = 0 then
      f_X0_areTwo_13 S k_2 M x0 x1 x2 x3 n (wr_i (x4 + 1))
    else
      (gR_ S x0 0 3).bind fun v7 =>
      (aR_ S v7 22 x3).bind fun v8 =>
      (gR_ S x0 0 3).bind fun v9 =>
      (aR_ S v9 22 x4).bind fun v10 =>
      (vc_ S v8 1 (f_X1_differsOnlyBy S M v8 v10 x1 x2)).bind fun v11 =>
      if v11 = 0 then
        f_X0_areTwo_13 S k_2 M x0 x1 x2 x3 n (wr_i (x4 + 1))
      else
        some 1
  else
    k_2 (wr_i (x3 + 1))
def f_X0_areTwo_2 (S : SH_s) (M : Mem_m) (x0 : Nat) (x1 : Int) (x2 : Int) : Nat → Int → Option Int
  | 0, _ => none
  | n + 1, x3 =>
  (gI_ S M x0 0 4).bind fun v1 =>
  if x3 < v1 then
    f_X0_areTwo_13 S (fun x3 => f_X0_areTwo_2 S M x0 x1 x2 n x3) M x0 x1 x2 x3 FU_ 0
  else
    some 0
def f_X0_areTwo (S : SH_s) (M : Mem_m) (x0 : Nat) (x1 : Int) (x2 : Int) : Option Int :=
  f_X0_areTwo_2 S M x0 x1 x2 FU_ 0
def f_X10_soundOrEdge (S : SH_s) (M : Mem_m) (x0 : Nat) (x1 : Int) : Option Int :=
  if x1 < 0 then
    some 14
  else
    (gI_ S M x0 10 1).bind fun v1 =>
    if x1 < v1 then
      (gR_ S x0 10 0).bind fun v2 =>
      (aI_ S M v2 x1).bind fun v3 =>
      some v3
    else
      some 14
def f_X0_isSaidBetween_27 (S : SH_s) (k_3 : Int → Option Int) (M : Mem_m) (x0 : Nat) (x1 : Int) (x2 : Int) (x3 : Int) (x4 : Int) (x5 : Nat) : Nat → Int → Option Int
  | 0, _ => none
  | n + 1, x6 =>
  (gR_ S x0 0 3).bind fun v1 =>
  (aR_ S v1 22 x4).bind fun v2 =>
  (vc_ S v2 1 (f_X1_isCounted S M v2)).bind fun v3 =>
  if v3 = 0 then
    k_3 (wr_i (x4 + 1))
  else
    (gI_ S M x5 10 1).bind fun v4 =>
    if x6 < v4 then
      (gR_ S x5 10 0).bind fun v5 =>
      (aI_ S M v5 x6).bind fun v6 =>
      if v6 = x1 then
        (vc_ S x5 10 (f_X10_soundOrEdge S M x5 (wr_i (x6 - 1)))).bind fun v7 =>
        if v7 = x2 then
          (vc_ S x5 10 (f_X10_soundOrEdge S M x5 (wr_i (x6 + 1)))).bind fun v8 =>
          if v8 = x3 then
            some 1
          else
            f_X0_isSaidBetween_27 S k_3 M x0 x1 x2 x3 x4 x5 n (wr_i (x6 + 1))
        else
          f_X0_isSaidBetween_27 S k_3 M x0 x1 x2 x3 x4 x5 n (wr_i (x6 + 1))
      else
        f_X0_isSaidBetween_27 S k_3 M x0 x1 x2 x3 x4 x5 n (wr_i (x6 + 1))
    else
      k_3 (wr_i (x4 + 1))
def f_X0_isSaidBetween_3 (S : SH_s) (M : Mem_m) (x0 : Nat) (x1 : Int) (x2 : Int) (x3 : Int) : Nat → Int → Option Int
  | 0, _ => none
  | n + 1, x4 =>
  (gI_ S M x0 0 4).bind fun v1 =>
  if x4 < v1 then
    (gR_ S x0 0 3).bind fun v2 =>
    (aR_ S v2 22 x4).bind fun v3 =>
    (gR_ S v3 1 0).bind fun v4 =>
    f_X0_isSaidBetween_27 S (fun x4 => f_X0_isSaidBetween_3 S M x0 x1 x2 x3 n x4) M x0 x1 x2 x3 x4 v4 FU_ 0
  else
    some 0
def f_X0_isSaidBetween (S : SH_s) (M : Mem_m) (x0 : Nat) (x1 : Int) (x2 : Int) (x3 : Int) : Option Int :=
  f_X0_isSaidBetween_3 S M x0 x1 x2 x3 FU_ 0
def f_X0_meetsFrom_3 (S : SH_s) (M : Mem_m) (x0 : Nat) (x1 : Nat) (x2 : Int) (x3 : Int) : Nat → Int → Option Int
  | 0, _ => none
  | n + 1, x4 =>
  (gI_ S M x1 10 1).bind fun v1 =>
  if x4 < v1 then
    (gR_ S x1 10 0).bind fun v2 =>
    (aI_ S M v2 x4).bind fun v3 =>
    if v3 = x2 then
      (vc_ S x1 10 (f_X10_soundOrEdge S M x1 (wr_i (x4 - 1)))).bind fun v4 =>
      (vc_ S x1 10 (f_X10_soundOrEdge S M x1 (wr_i (x4 + 1)))).bind fun v5 =>
      (vc_ S x0 0 (f_X0_isSaidBetween S M x0 x3 v4 v5)).bind fun v6 =>
      if v6 = 0 then
        f_X0_meetsFrom_3 S M x0 x1 x2 x3 n (wr_i (x4 + 1))
      else
        some 1
    else
      f_X0_meetsFrom_3 S M x0 x1 x2 x3 n (wr_i (x4 + 1))
  else
    some 0
def f_X0_meetsFrom (S : SH_s) (M : Mem_m) (x0 : Nat) (x1 : Nat) (x2 : Int) (x3 : Int) : Option Int :=
  f_X0_meetsFrom_3 S M x0 x1 x2 x3 FU_ 0
def f_X0_doMeet_2 (S : SH_s) (M : Mem_m) (x0 : Nat) (x1 : Int) (x2 : Int) : Nat → Int → Option Int
  | 0, _ => none
  | n + 1, x3 =>
  (gI_ S M x0 0 4).bind fun v1 =>
  if x3 < v1 then
    (gR_ S x0 0 3).bind fun v2 =>
    (aR_ S v2 22 x3).bind fun v3 =>
    (vc_ S v3 1 (f_X1_isCounted S M v3)).bind fun v4 =>
    if v4 = 0 then
      f_X0_doMeet_2 S M x0 x1 x2 n (wr_i (x3 + 1))
    else
      (gR_ S x0 0 3).bind fun v5 =>
      (aR_ S v5 22 x3).bind fun v6 =>
      (gR_ S v6 1 0).bind fun v7 =>
      (vc_ S x0 0 (f_X0_meetsFrom S M x0 v7 x1 x2)).bind fun v8 =>
      if v8 = 0 then
        f_X0_doMeet_2 S M x0 x1 x2 n (wr_i (x3 + 1))
      else
        some 1
  else
    some 0
def f_X0_doMeet (S : SH_s) (M : Mem_m) (x0 : Nat) (x1 : Int) (x2 : Int) : Option Int :=
  f_X0_doMeet_2 S M x0 x1 x2 FU_ 0
def f_X5_lengthTold (S : SH_s) (M : Mem_m) (x0 : Nat) : Option Int :=
  (gR_ S x0 5 2).bind fun v1 =>
  (gI_ S M v1 10 1).bind fun v2 =>
  (gI_ S M x0 5 1).bind fun v3 =>
  if v3 = 1 then
    some (wr_i ((wr_i (v2 + 1)) + 2))
  else
  if v3 = 2 then
    some (wr_i (v2 + 1))
  else
  if v3 = 3 then
    some (wr_i ((wr_i (2 * (wr_i (v2 + 1)))) - 1))
  else
  if v3 = 4 then
    some (wr_i ((wr_i ((wr_i (v2 + 1)) + 2)) + 3))
  else
  some (wr_i (v2 + 1))
def f_X0_lengthsOf_4 (S : SH_s) (M : Mem_m) (x0 : Nat) (x1 : Int) : Nat → Int → Int → Option Int
  | 0, _, _ => none
  | n + 1, x2, x3 =>
  (gI_ S M x0 0 6).bind fun v1 =>
  if x3 < v1 then
    if an_i (sr_i x1 x3) 1 = 1 then
      (gR_ S x0 0 5).bind fun v2 =>
      (aR_ S v2 23 x3).bind fun v3 =>
      (vc_ S v3 5 (f_X5_lengthTold S M v3)).bind fun v4 =>
      f_X0_lengthsOf_4 S M x0 x1 n (wr_i (x2 + v4)) (wr_i (x3 + 1))
    else
      f_X0_lengthsOf_4 S M x0 x1 n x2 (wr_i (x3 + 1))
  else
    some x2
def f_X0_lengthsOf (S : SH_s) (M : Mem_m) (x0 : Nat) (x1 : Int) : Option Int :=
  f_X0_lengthsOf_4 S M x0 x1 FU_ 0 0
def f_X0_leftBy_28 (S : SH_s) (M : Mem_m) (x0 : Nat) (x1 : Int) (s0 : Int) : Option Int :=
  if s0 = 0 then
    some 16777215
  else
    (gR_ S x0 0 10).bind fun v1 =>
    (aR_ S v1 25 x1).bind fun v2 =>
    (gI_ S M v2 8 2).bind fun v3 =>
    some v3
def f_X0_leftBy_23 (S : SH_s) (M : Mem_m) (x0 : Nat) (x1 : Int) : Option Int :=
  f_X0_leftBy_28 S M x0 x1 1
def f_X0_leftBy (S : SH_s) (M : Mem_m) (x0 : Nat) (x1 : Int) (x2 : Int) : Option Int :=
  if x2 = (-1) then
    f_X0_leftBy_23 S M x0 x1
  else
    (gR_ S x0 0 1).bind fun v1 =>
    (gR_ S x0 0 10).bind fun v2 =>
    (aR_ S v2 25 x1).bind fun v3 =>
    (gI_ S M v3 8 0).bind fun v4 =>
    (aI_ S M v1 v4).bind fun v5 =>
    if v5 = x2 then
      f_X0_leftBy_23 S M x0 x1
    else
      f_X0_leftBy_28 S M x0 x1 0
def f_X0_setOfOrders_5 (S : SH_s) (M : Mem_m) (x0 : Nat) (x1 : Int) : Nat → Int → Int → Option Int
  | 0, _, _ => none
  | n + 1, x2, x3 =>
  (gI_ S M x0 0 11).bind fun v1 =>
  if x3 < v1 then
    (vc_ S x0 0 (f_X0_leftBy S M x0 x3 x1)).bind fun v2 =>
    f_X0_setOfOrders_5 S M x0 x1 n (an_i x2 v2) (wr_i (x3 + 1))
  else
    some x2
def f_X0_setOfOrders (S : SH_s) (M : Mem_m) (x0 : Nat) (x1 : Int) : Option Int :=
  f_X0_setOfOrders_5 S M x0 x1 FU_ 16777215 0
def f_X0_lowestBelow_39 (S : SH_s) (k_3 : Int → Option Int) (M : Mem_m) (x0 : Nat) (x1 : Int) (x2 : Int) (x3 : Int) (x4 : Int) (x5 : Int) (x6 : Int) : Nat → Int → Option Int
  | 0, _ => none
  | n + 1, x7 =>
  if x4 = 2 then
    if x7 < x5 then
      (vc_ S x0 0 (f_X0_leftBy S M x0 x7 x3)).bind fun v1 =>
      if an_i x6 v1 = 0 then
        some (or_i (sl_i 1 x5) (sl_i 1 x7))
      else
        f_X0_lowestBelow_39 S k_3 M x0 x1 x2 x3 x4 x5 x6 n (wr_i (x7 + 1))
    else
      k_3 (wr_i (x5 + 1))
  else
    k_3 (wr_i (x5 + 1))
def f_X0_lowestBelow_3 (S : SH_s) (M : Mem_m) (x0 : Nat) (x1 : Int) (x2 : Int) (x3 : Int) (x4 : Int) : Nat → Int → Option Int
  | 0, _ => none
  | n + 1, x5 =>
  if x5 < x1 then
    (vc_ S x0 0 (f_X0_leftBy S M x0 x5 x3)).bind fun v1 =>
    if x4 = 1 then
      if an_i x2 v1 = 0 then
        some (sl_i 1 x5)
      else
        f_X0_lowestBelow_39 S (fun x5 => f_X0_lowestBelow_3 S M x0 x1 x2 x3 x4 n x5) M x0 x1 x2 x3 x4 x5 (an_i x2 v1) FU_ 0
    else
      f_X0_lowestBelow_39 S (fun x5 => f_X0_lowestBelow_3 S M x0 x1 x2 x3 x4 n x5) M x0 x1 x2 x3 x4 x5 (an_i x2 v1) FU_ 0
  else
    some (-1)
def f_X0_lowestBelow (S : SH_s) (M : Mem_m) (x0 : Nat) (x1 : Int) (x2 : Int) (x3 : Int) (x4 : Int) : Option Int :=
  f_X0_lowestBelow_3 S M x0 x1 x2 x3 x4 FU_ 0
def f_X0_leastWithoutOrder_47 (S : SH_s) (k_2 : Int → Option Int) (M : Mem_m) (x0 : Nat) (x1 : Int) (x2 : Int) (x3 : Int) (s0 : Int) : Option Int :=
  if s0 < 0 then
    k_2 (wr_i (x3 + 1))
  else
    some (or_i s0 (sl_i 1 x3))
def f_X0_leastWithoutOrder_2 (S : SH_s) (M : Mem_m) (x0 : Nat) (x1 : Int) (x2 : Int) : Nat → Int → Option Int
  | 0, _ => none
  | n + 1, x3 =>
  (gI_ S M x0 0 11).bind fun v1 =>
  if x3 < v1 then
    (vc_ S x0 0 (f_X0_leftBy S M x0 x3 x1)).bind fun v2 =>
    if x2 = 1 then
      if v2 = 0 then
        f_X0_leastWithoutOrder_47 S (fun x3 => f_X0_leastWithoutOrder_2 S M x0 x1 x2 n x3) M x0 x1 x2 x3 0
      else
        f_X0_leastWithoutOrder_47 S (fun x3 => f_X0_leastWithoutOrder_2 S M x0 x1 x2 n x3) M x0 x1 x2 x3 (-1)
    else
      (vc_ S x0 0 (f_X0_lowestBelow S M x0 x3 v2 x1 (wr_i (x2 - 1)))).bind fun v3 =>
      f_X0_leastWithoutOrder_47 S (fun x3 => f_X0_leastWithoutOrder_2 S M x0 x1 x2 n x3) M x0 x1 x2 x3 v3
  else
    some 0
def f_X0_leastWithoutOrder (S : SH_s) (M : Mem_m) (x0 : Nat) (x1 : Int) (x2 : Int) : Option Int :=
  f_X0_leastWithoutOrder_2 S M x0 x1 x2 FU_ 0
def f_X0_saidBy_4 (S : SH_s) (M : Mem_m) (x0 : Nat) (x1 : Int) : Nat → Int → Int → Option Int
  | 0, _, _ => none
  | n + 1, x2, x3 =>
  (gI_ S M x0 0 11).bind fun v1 =>
  if x3 < v1 then
    (gR_ S x0 0 10).bind fun v2 =>
    (aR_ S v2 25 x3).bind fun v3 =>
    (gI_ S M v3 8 0).bind fun v4 =>
    if v4 = x1 then
      f_X0_saidBy_4 S M x0 x1 n (wr_i (x2 + 1)) (wr_i (x3 + 1))
    else
      f_X0_saidBy_4 S M x0 x1 n x2 (wr_i (x3 + 1))
  else
    some x2
def f_X0_saidBy (S : SH_s) (M : Mem_m) (x0 : Nat) (x1 : Int) : Option Int :=
  f_X0_saidBy_4 S M x0 x1 FU_ 0 0
def f_X0_isRested_2 (S : SH_s) (M : Mem_m) (x0 : Nat) (x1 : Int) (x2 : Int) : Nat → Int → Option Int
  | 0, _ => none
  | n + 1, x3 =>
  (gI_ S M x0 0 11).bind fun v1 =>
  if x3 < v1 then
    (gR_ S x0 0 10).bind fun v2 =>
    (aR_ S v2 25 x3).bind fun v3 =>
    (gI_ S M v3 8 0).bind fun v4 =>
    if v4 = x1 then
      (gR_ S x0 0 10).bind fun v5 =>
      (aR_ S v5 25 x3).bind fun v6 =>
      (gI_ S M v6 8 1).bind fun v7 =>
      (gR_ S x0 0 2).bind fun v8 =>
      (aI_ S M v8 x1).bind fun v9 =>
      if wr_i (v7 + v9) ≤ x2 then
        f_X0_isRested_2 S M x0 x1 x2 n (wr_i (x3 + 1))
      else
        some 0
    else
      f_X0_isRested_2 S M x0 x1 x2 n (wr_i (x3 + 1))
  else
    some 1
def f_X0_isRested (S : SH_s) (M : Mem_m) (x0 : Nat) (x1 : Int) (x2 : Int) : Option Int :=
  f_X0_isRested_2 S M x0 x1 x2 FU_ 0
def f_X1_isOtherHearing (S : SH_s) (M : Mem_m) (x0 : Nat) (x1 : Nat) : Option Int :=
  (gI_ S M x0 1 6).bind fun v1 =>
  if v1 = 0 then
    (gI_ S M x1 1 6).bind fun v2 =>
    if v2 = 0 then
      (gI_ S M x0 1 2).bind fun v3 =>
      (gI_ S M x1 1 2).bind fun v4 =>
      if v3 = v4 then
        (gI_ S M x0 1 4).bind fun v5 =>
        (gI_ S M x1 1 4).bind fun v6 =>
        if v5 = v6 then
          (gI_ S M x0 1 3).bind fun v7 =>
          (gI_ S M x1 1 3).bind fun v8 =>
          if v7 = v8 then
            some 0
          else
            some 1
        else
          some 0
      else
        some 0
    else
      some 0
  else
    some 0
def f_J7_fill_53178_5 (S : SH_s) (x0 : Nat) (x1 : Int) (x3 : Int) : Nat → Mem_m → Int → Option Mem_m
  | 0, _, _ => none
  | n + 1, M, x2 =>
  if x2 < x3 then
    (sI_ S M x0 x2 x1).bind fun M1 =>
    f_J7_fill_53178_5 S x0 x1 x3 n M1 (wr_i (x2 + 1))
  else
    some M
def f_J7_fill_53178 (S : SH_s) (M : Mem_m) (x0 : Nat) (x1 : Int) : Option Mem_m :=
  (aL_ S x0).bind fun v1 =>
  f_J7_fill_53178_5 S x0 x1 v1 FU_ M 0
def f_X10_standsAt_17 (S : SH_s) (M : Mem_m) (x0 : Nat) (x1 : Int) (x2 : Nat) : Nat → Int → Option Int
  | 0, _ => none
  | n + 1, x3 =>
  (gI_ S M x2 10 1).bind fun v1 =>
  if x3 < v1 then
    (gR_ S x0 10 0).bind fun v2 =>
    (aI_ S M v2 (wr_i (x1 + x3))).bind fun v3 =>
    (gR_ S x2 10 0).bind fun v4 =>
    (aI_ S M v4 x3).bind fun v5 =>
    if v3 = v5 then
      f_X10_standsAt_17 S M x0 x1 x2 n (wr_i (x3 + 1))
    else
      some 0
  else
    some 1
def f_X10_standsAt (S : SH_s) (M : Mem_m) (x0 : Nat) (x1 : Int) (x2 : Nat) : Option Int :=
  (gI_ S M x2 10 1).bind fun v1 =>
  (gI_ S M x0 10 1).bind fun v2 =>
  if wr_i (x1 + v1) ≤ v2 then
    f_X10_standsAt_17 S M x0 x1 x2 FU_ 0
  else
    some 0
def f_X2_findStanding_37 (S : SH_s) (k_13 : Mem_m → Int → Int → Option (Mem_m × Int)) (x0 : Nat) (x1 : Nat) (x2 : Nat) (x4 : Int) (x5 : Nat) : Nat → Mem_m → Int → Int → Option (Mem_m × Int)
  | 0, _, _, _ => none
  | n + 1, M, x3, x6 =>
  (gI_ S M x2 10 1).bind fun v1 =>
  if x6 < v1 then
    (vc_ S x2 10 (f_X10_standsAt S M x2 x6 x5)).bind fun v2 =>
    if v2 = 0 then
      f_X2_findStanding_37 S k_13 x0 x1 x2 x4 x5 n M x3 (wr_i (x6 + 1))
    else
      (gR_ S x0 2 0).bind fun v3 =>
      (gI_ S M x5 10 1).bind fun v4 =>
      (aI_ S M v3 (wr_i ((wr_i (x6 * 9)) + v4))).bind fun v5 =>
      (sI_ S M v3 (wr_i ((wr_i (x6 * 9)) + v4)) (or_i v5 (sl_i 1 x4))).bind fun M6 =>
      f_X2_findStanding_37 S k_13 x0 x1 x2 x4 x5 n M6 (or_i x3 (sl_i 1 x4)) (wr_i (x6 + 1))
  else
    k_13 M x3 (wr_i (x4 + 1))
def f_X2_findStanding_13 (S : SH_s) (x0 : Nat) (x1 : Nat) (x2 : Nat) : Nat → Mem_m → Int → Int → Option (Mem_m × Int)
  | 0, _, _, _ => none
  | n + 1, M, x3, x4 =>
  (gI_ S M x1 0 6).bind fun v1 =>
  if x4 < v1 then
    (gR_ S x1 0 5).bind fun v2 =>
    (aR_ S v2 23 x4).bind fun v3 =>
    (gR_ S v3 5 3).bind fun v4 =>
    f_X2_findStanding_37 S (fun M x3 x4 => f_X2_findStanding_13 S x0 x1 x2 n M x3 x4) x0 x1 x2 x4 v4 FU_ M x3 0
  else
    some (M, x3)
def f_X2_findStanding (S : SH_s) (M : Mem_m) (x0 : Nat) (x1 : Nat) (x2 : Nat) : Option (Mem_m × Int) :=
  (gR_ S x0 2 0).bind fun v1 =>
  (f_J7_fill_53178 S M v1 0).bind fun M2 =>
  f_X2_findStanding_13 S x0 x1 x2 FU_ M2 0 0
def f_X2_leastCost_30 (S : SH_s) (k_11 : Mem_m → Int → Option (Mem_m × Int)) (M : Mem_m) (x0 : Nat) (x1 : Int) (x2 : Int) (x3 : Int) : Nat → Int → Int → Option (Mem_m × Int)
  | 0, _, _ => none
  | n + 1, x4, x5 =>
  if wr_i (x3 + x5) ≤ x1 then
    (gR_ S x0 2 0).bind fun v1 =>
    (aI_ S M v1 (wr_i ((wr_i (x3 * 9)) + x5))).bind fun v2 =>
    if an_i v2 x2 = 0 then
      f_X2_leastCost_30 S k_11 M x0 x1 x2 x3 n x4 (wr_i (x5 + 1))
    else
      (gR_ S x0 2 1).bind fun v3 =>
      (aI_ S M v3 (wr_i (x3 + x5))).bind fun v4 =>
      f_X2_leastCost_30 S k_11 M x0 x1 x2 x3 n (min x4 (wr_i (v4 + 2))) (wr_i (x5 + 1))
  else
    (gR_ S x0 2 1).bind fun v6 =>
    (sI_ S M v6 x3 x4).bind fun M7 =>
    k_11 M7 (wr_i (x3 + (-1)))
def f_X2_leastCost_11 (S : SH_s) (x0 : Nat) (x1 : Int) (x2 : Int) : Nat → Mem_m → Int → Option (Mem_m × Int)
  | 0, _, _ => none
  | n + 1, M, x3 =>
  if x3 < 0 then
    (gR_ S x0 2 1).bind fun v1 =>
    (aI_ S M v1 0).bind fun v2 =>
    some (M, v2)
  else
    (gR_ S x0 2 1).bind fun v3 =>
    (aI_ S M v3 (wr_i (x3 + 1))).bind fun v4 =>
    f_X2_leastCost_30 S (fun M x3 => f_X2_leastCost_11 S x0 x1 x2 n M x3) M x0 x1 x2 x3 FU_ (wr_i (v4 + 5)) 1
def f_X2_leastCost (S : SH_s) (M : Mem_m) (x0 : Nat) (x1 : Int) (x2 : Int) : Option (Mem_m × Int) :=
  (gR_ S x0 2 1).bind fun v1 =>
  (sI_ S M v1 x1 0).bind fun M2 =>
  f_X2_leastCost_11 S x0 x1 x2 FU_ M2 (wr_i (x1 - 1))
def f_X2_longestNote_5 (S : SH_s) (M : Mem_m) (x0 : Nat) (x1 : Int) (x3 : Int) : Nat → Int → Option Int
  | 0, _ => none
  | n + 1, x4 =>
  if x4 ≤ 0 then
    some 0
  else
    (gR_ S x0 2 0).bind fun v1 =>
    (aI_ S M v1 (wr_i ((wr_i (x1 * 9)) + x4))).bind fun v2 =>
    if an_i v2 x3 = 0 then
      f_X2_longestNote_5 S M x0 x1 x3 n (wr_i (x4 + (-1)))
    else
      (gR_ S x0 2 1).bind fun v3 =>
      (aI_ S M v3 x1).bind fun v4 =>
      (gR_ S x0 2 1).bind fun v5 =>
      (aI_ S M v5 (wr_i (x1 + x4))).bind fun v6 =>
      if v4 = wr_i (v6 + 2) then
        some x4
      else
        f_X2_longestNote_5 S M x0 x1 x3 n (wr_i (x4 + (-1)))
def f_X2_longestNote (S : SH_s) (M : Mem_m) (x0 : Nat) (x1 : Int) (x2 : Int) (x3 : Int) : Option Int :=
  f_X2_longestNote_5 S M x0 x1 x3 FU_ (wr_i (x2 - x1))
def f_J6_numberOfTrailingZeros_0f7a4_62 (S : SH_s) (M : Mem_m) (x0 : Int) (x1 : Int) : Option Int :=
  if x0 ≤ 4 then
    some (wr_i (x1 + (us_i x0 1)))
  else
    some (wr_i ((wr_i (x1 + 2)) + (us_i (us_i x0 2) 1)))
def f_J6_numberOfTrailingZeros_0f7a4_49 (S : SH_s) (M : Mem_m) (x0 : Int) (x1 : Int) : Option Int :=
  if x0 ≤ 16 then
    f_J6_numberOfTrailingZeros_0f7a4_62 S M x0 x1
  else
    f_J6_numberOfTrailingZeros_0f7a4_62 S M (us_i x0 4) (wr_i (x1 + 4))
def f_J6_numberOfTrailingZeros_0f7a4_34 (S : SH_s) (M : Mem_m) (x0 : Int) (x1 : Int) : Option Int :=
  if x0 ≤ 256 then
    f_J6_numberOfTrailingZeros_0f7a4_49 S M x0 x1
  else
    f_J6_numberOfTrailingZeros_0f7a4_49 S M (us_i x0 8) (wr_i (x1 + 8))
def f_J6_numberOfTrailingZeros_0f7a4 (S : SH_s) (M : Mem_m) (x0 : Int) : Option Int :=
  if an_i (xo_i x0 (-1)) (wr_i (x0 - 1)) ≤ 0 then
    some (an_i (an_i (xo_i x0 (-1)) (wr_i (x0 - 1))) 32)
  else
    if an_i (xo_i x0 (-1)) (wr_i (x0 - 1)) ≤ 65536 then
      f_J6_numberOfTrailingZeros_0f7a4_34 S M (an_i (xo_i x0 (-1)) (wr_i (x0 - 1))) 1
    else
      f_J6_numberOfTrailingZeros_0f7a4_34 S M (us_i (an_i (xo_i x0 (-1)) (wr_i (x0 - 1))) 16) (wr_i (1 + 16))
def f_X2_chooseParts_116 (S : SH_s) (k_17 : Mem_m → Int → Option Mem_m) (M : Mem_m) (x0 : Nat) (x1 : Nat) (x2 : Int) (x3 : Int) (x4 : Int) : Option Mem_m :=
  (gI_ S M x0 2 3).bind fun v1 =>
  (pI_ S M x0 2 3 (wr_i (v1 + 1))).bind fun M2 =>
  k_17 M2 (wr_i (x3 + (max x4 1)))
def f_X2_chooseParts_17 (S : SH_s) (x0 : Nat) (x1 : Nat) (x2 : Int) : Nat → Mem_m → Int → Option Mem_m
  | 0, _, _ => none
  | n + 1, M, x3 =>
  (gI_ S M x1 10 1).bind fun v1 =>
  if x3 < v1 then
    (gI_ S M x1 10 1).bind fun v2 =>
    (vc_ S x0 2 (f_X2_longestNote S M x0 x3 v2 x2)).bind fun v3 =>
    if v3 ≤ 0 then
      (gR_ S x0 2 2).bind fun v4 =>
      (gI_ S M x0 2 3).bind fun v5 =>
      (gR_ S x1 10 0).bind fun v6 =>
      (aI_ S M v6 x3).bind fun v7 =>
      (sI_ S M v4 v5 (wr_i (100 + v7))).bind fun M8 =>
      (gI_ S M8 x0 2 5).bind fun v9 =>
      (pI_ S M8 x0 2 5 (wr_i (v9 + 1))).bind fun M10 =>
      f_X2_chooseParts_116 S (fun M x3 => f_X2_chooseParts_17 S x0 x1 x2 n M x3) M10 x0 x1 x2 x3 v3
    else
      (gR_ S x0 2 0).bind fun v11 =>
      (aI_ S M v11 (wr_i ((wr_i (x3 * 9)) + v3))).bind fun v12 =>
      (f_J6_numberOfTrailingZeros_0f7a4 S M (an_i v12 x2)).bind fun v13 =>
      (gR_ S x0 2 2).bind fun v14 =>
      (gI_ S M x0 2 3).bind fun v15 =>
      (sI_ S M v14 v15 v13).bind fun M16 =>
      (gI_ S M16 x0 2 4).bind fun v17 =>
      (pI_ S M16 x0 2 4 (or_i v17 (sl_i 1 v13))).bind fun M18 =>
      f_X2_chooseParts_116 S (fun M x3 => f_X2_chooseParts_17 S x0 x1 x2 n M x3) M18 x0 x1 x2 x3 v3
  else
    some M
def f_X2_chooseParts (S : SH_s) (M : Mem_m) (x0 : Nat) (x1 : Nat) (x2 : Int) : Option Mem_m :=
  (pI_ S M x0 2 3 0).bind fun M1 =>
  (pI_ S M1 x0 2 4 0).bind fun M2 =>
  (pI_ S M2 x0 2 5 0).bind fun M3 =>
  f_X2_chooseParts_17 S x0 x1 x2 FU_ M3 0
def f_X2_cutUp (S : SH_s) (M : Mem_m) (x0 : Nat) (x1 : Nat) (x2 : Nat) : Option Mem_m :=
  (gR_ S x2 1 0).bind fun v1 =>
  (vc_ S x0 2 (f_X2_findStanding S M x0 x1 v1)).bind fun z2 =>
  (gR_ S x2 1 0).bind fun v3 =>
  (gI_ S z2.1 v3 10 1).bind fun v4 =>
  (gI_ S z2.1 x1 0 7).bind fun v5 =>
  (vc_ S x0 2 (f_X2_leastCost S z2.1 x0 v4 v5)).bind fun z6 =>
  (gR_ S x2 1 0).bind fun v7 =>
  (gI_ S z6.1 x1 0 7).bind fun v8 =>
  (vc_ S x0 2 (f_X2_chooseParts S z6.1 x0 v7 v8)).bind fun M9 =>
  some M9
def f_X2_addCosts_60 (S : SH_s) (k_11 : Mem_m → Int → Option Mem_m) (M : Mem_m) (x0 : Nat) (x2 : Nat) (x3 : Int) (x4 : Int) (x5 : Int) (x6 : Int) (s0 : Int) (s1 : Int) (s2 : Nat) : Option Mem_m :=
  (sI_ S M s2 s1 s0).bind fun M1 =>
  (gR_ S x0 2 7).bind fun v2 =>
  (aI_ S M1 v2 x6).bind fun v3 =>
  (gR_ S x0 2 6).bind fun v4 =>
  (aI_ S M1 v4 x6).bind fun v5 =>
  (sI_ S M1 v2 x6 (wr_i (v3 + v5))).bind fun M6 =>
  k_11 M6 (wr_i (x6 + 1))
def f_X2_addCosts_11 (S : SH_s) (x0 : Nat) (x2 : Nat) (x3 : Int) (x4 : Int) (x5 : Int) : Nat → Mem_m → Int → Option Mem_m
  | 0, _, _ => none
  | n + 1, M, x6 =>
  if x6 < x3 then
    (gR_ S x0 2 6).bind fun v1 =>
    if an_i x6 x5 = x6 then
      (gI_ S M x2 10 1).bind fun v2 =>
      (vc_ S x0 2 (f_X2_leastCost S M x0 v2 (or_i x6 x4))).bind fun z3 =>
      f_X2_addCosts_60 S (fun M x6 => f_X2_addCosts_11 S x0 x2 x3 x4 x5 n M x6) z3.1 x0 x2 x3 x4 x5 x6 z3.2 x6 v1
    else
      (gR_ S x0 2 6).bind fun v4 =>
      (aI_ S M v4 (an_i x6 x5)).bind fun v5 =>
      f_X2_addCosts_60 S (fun M x6 => f_X2_addCosts_11 S x0 x2 x3 x4 x5 n M x6) M x0 x2 x3 x4 x5 x6 v5 x6 v1
  else
    some M
def f_X2_addCosts (S : SH_s) (M : Mem_m) (x0 : Nat) (x1 : Nat) (x2 : Nat) (x3 : Int) (x4 : Int) : Option Mem_m :=
  (vc_ S x0 2 (f_X2_findStanding S M x0 x1 x2)).bind fun z1 =>
  f_X2_addCosts_11 S x0 x2 x3 x4 z1.2 FU_ z1.1 0
def f_X2_findLeastList_107 (S : SH_s) (x0 : Nat) (x2 : Int) : Nat → Mem_m → Int → Option Mem_m
  | 0, _, _ => none
  | n + 1, M, x4 =>
  if x4 < x2 then
    (gR_ S x0 2 7).bind fun v1 =>
    (aI_ S M v1 x4).bind fun v2 =>
    (gR_ S x0 2 7).bind fun v3 =>
    (gI_ S M x0 2 9).bind fun v4 =>
    (aI_ S M v3 v4).bind fun v5 =>
    if v2 < v5 then
      (pI_ S M x0 2 9 x4).bind fun M6 =>
      f_X2_findLeastList_107 S x0 x2 n M6 (wr_i (x4 + 1))
    else
      f_X2_findLeastList_107 S x0 x2 n M (wr_i (x4 + 1))
  else
    (gR_ S x0 2 7).bind fun v7 =>
    (gI_ S M x0 2 9).bind fun v8 =>
    (aI_ S M v7 v8).bind fun v9 =>
    (pI_ S M x0 2 8 v9).bind fun M10 =>
    some M10
def f_X2_findLeastList_54 (S : SH_s) (x0 : Nat) (x1 : Nat) (x2 : Int) (x3 : Int) : Nat → Mem_m → Int → Option Mem_m
  | 0, _, _ => none
  | n + 1, M, x4 =>
  (gI_ S M x1 0 4).bind fun v1 =>
  if x4 < v1 then
    (gR_ S x1 0 3).bind fun v2 =>
    (aR_ S v2 22 x4).bind fun v3 =>
    (vc_ S v3 1 (f_X1_isCounted S M v3)).bind fun v4 =>
    if v4 = 0 then
      f_X2_findLeastList_54 S x0 x1 x2 x3 n M (wr_i (x4 + 1))
    else
      (gR_ S x1 0 3).bind fun v5 =>
      (aR_ S v5 22 x4).bind fun v6 =>
      (gR_ S v6 1 0).bind fun v7 =>
      (vc_ S x0 2 (f_X2_addCosts S M x0 x1 v7 x2 x3)).bind fun M8 =>
      f_X2_findLeastList_54 S x0 x1 x2 x3 n M8 (wr_i (x4 + 1))
  else
    (pI_ S M x0 2 9 0).bind fun M9 =>
    f_X2_findLeastList_107 S x0 x2 FU_ M9 1
def f_X2_findLeastList_24 (S : SH_s) (x0 : Nat) (x1 : Nat) (x2 : Int) (x3 : Int) : Nat → Mem_m → Int → Option Mem_m
  | 0, _, _ => none
  | n + 1, M, x4 =>
  if x4 < x2 then
    (gR_ S x0 2 7).bind fun v1 =>
    (vc_ S x1 0 (f_X0_lengthsOf S M x1 (or_i x4 x3))).bind fun v2 =>
    (sI_ S M v1 x4 v2).bind fun M3 =>
    f_X2_findLeastList_24 S x0 x1 x2 x3 n M3 (wr_i (x4 + 1))
  else
    f_X2_findLeastList_54 S x0 x1 x2 x3 FU_ M 0
def f_X2_findLeastList (S : SH_s) (M : Mem_m) (x0 : Nat) (x1 : Nat) : Option Mem_m :=
  (gI_ S M x1 0 6).bind fun v1 =>
  (gI_ S M x1 0 7).bind fun v3 =>
  f_X2_findLeastList_24 S x0 x1 (sl_i 1 (min v1 10)) (an_i v3 (-1024)) FU_ M 0
def f_X3_takeRow (S : SH_s) (M : Mem_m) (x0 : Nat) (x1 : Nat) : Option Mem_m :=
  (gI_ S M x1 9 3).bind fun v1 =>
  (pI_ S M x0 3 1 v1).bind fun M2 =>
  (gR_ S x1 9 4).bind fun v3 =>
  (gR_ S x0 3 0).bind fun v4 =>
  (gI_ S M2 x0 3 1).bind fun v5 =>
  (cp_ S M2 v3 0 v4 0 v5).bind fun M6 =>
  some M6
def f_X9_holdRow (S : SH_s) (M : Mem_m) (x0 : Nat) (x1 : Int) (x2 : Int) : Option Mem_m :=
  (pI_ S M x0 9 0 2).bind fun M1 =>
  (pI_ S M1 x0 9 2 x1).bind fun M2 =>
  (pI_ S M2 x0 9 3 x2).bind fun M3 =>
  (gR_ S x0 9 4).bind fun v4 =>
  (f_J7_fill_53178 S M3 v4 0).bind fun M5 =>
  some M5
def f_X3_giveRow (S : SH_s) (M : Mem_m) (x0 : Nat) (x1 : Nat) : Option Mem_m :=
  (gI_ S M x0 3 1).bind fun v1 =>
  (vc_ S x1 9 (f_X9_holdRow S M x1 0 v1)).bind fun M2 =>
  (gR_ S x0 3 0).bind fun v3 =>
  (gR_ S x1 9 4).bind fun v4 =>
  (gI_ S M2 x0 3 1).bind fun v5 =>
  (cp_ S M2 v3 0 v4 0 v5).bind fun M6 =>
  some M6
def f_X11_isIn (S : SH_s) (M : Mem_m) (x0 : Int) (x1 : Int) : Option Int :=
  if x0 < 0 then
    some 0
  else
    if x0 < x1 then
      some 1
    else
      some 0
def f_X7_agrees (S : SH_s) (M : Mem_m) (x0 : Int) (x1 : Int) (x2 : Nat) : Option Int :=
  if x0 = 15 then
    some 1
  else
    if x0 = x1 then
      some 1
    else
      (f_X11_isIn S M x1 10).bind fun v1 =>
      if v1 = 0 then
        some 0
      else
        (aI_ S M x2 x1).bind fun v2 =>
        if x0 = wr_i (10 + v2) then
          some 1
        else
          some 0
def f_X3_apply_118 (S : SH_s) (k_9 : Mem_m → Int → Int → Int → Option Mem_m) (M : Mem_m) (x0 : Nat) (x1 : Nat) (x2 : Nat) (x3 : Int) (x4 : Int) (x5 : Int) (x6 : Int) (x8 : Int) : Option Mem_m :=
  (gR_ S x0 3 0).bind fun v1 =>
  if x8 = 0 then
    (sI_ S M v1 x3 x6).bind fun M2 =>
    k_9 M2 (wr_i (x3 + 1)) x4 (wr_i (x5 + 1))
  else
    (gI_ S M x1 7 1).bind fun v3 =>
    (sI_ S M v1 x3 v3).bind fun M4 =>
    k_9 M4 (wr_i (x3 + 1)) x4 (wr_i (x5 + 1))
def f_X3_apply_98 (S : SH_s) (k_9 : Mem_m → Int → Int → Int → Option Mem_m) (M : Mem_m) (x0 : Nat) (x1 : Nat) (x2 : Nat) (x3 : Int) (x5 : Int) (x6 : Int) (s0 : Int) : Option Mem_m :=
  if s0 = 0 then
    f_X3_apply_118 S k_9 M x0 x1 x2 x3 x6 x5 x6 s0
  else
    (gI_ S M x1 7 1).bind fun v1 =>
    if v1 = 16 then
      k_9 M x3 x6 (wr_i (x5 + 1))
    else
      f_X3_apply_118 S k_9 M x0 x1 x2 x3 x6 x5 x6 s0
def f_X3_apply_97 (S : SH_s) (k_9 : Mem_m → Int → Int → Int → Option Mem_m) (M : Mem_m) (x0 : Nat) (x1 : Nat) (x2 : Nat) (x3 : Int) (x5 : Int) (x6 : Int) : Option Mem_m :=
  f_X3_apply_98 S k_9 M x0 x1 x2 x3 x5 x6 0
def f_X3_apply_52 (S : SH_s) (k_9 : Mem_m → Int → Int → Int → Option Mem_m) (M : Mem_m) (x0 : Nat) (x1 : Nat) (x2 : Nat) (x3 : Int) (x4 : Int) (x5 : Int) (x6 : Int) (s0 : Int) : Option Mem_m :=
  (gI_ S M x1 7 0).bind fun v1 =>
  (f_X7_agrees S M v1 x6 x2).bind fun v2 =>
  if v2 = 0 then
    f_X3_apply_97 S k_9 M x0 x1 x2 x3 x5 x6
  else
    (gI_ S M x1 7 2).bind fun v3 =>
    (f_X7_agrees S M v3 x4 x2).bind fun v4 =>
    if v4 = 0 then
      f_X3_apply_97 S k_9 M x0 x1 x2 x3 x5 x6
    else
      (gI_ S M x1 7 3).bind fun v5 =>
      (f_X7_agrees S M v5 s0 x2).bind fun v6 =>
      if v6 = 0 then
        f_X3_apply_97 S k_9 M x0 x1 x2 x3 x5 x6
      else
        f_X3_apply_98 S k_9 M x0 x1 x2 x3 x5 x6 1
def f_X3_apply_9 (S : SH_s) (x0 : Nat) (x1 : Nat) (x2 : Nat) : Nat → Mem_m → Int → Int → Int → Option Mem_m
  | 0, _, _, _, _ => none
  | n + 1, M, x3, x4, x5 =>
  (gI_ S M x0 3 1).bind fun v1 =>
  if x5 < v1 then
    (gR_ S x0 3 0).bind fun v2 =>
    (aI_ S M v2 x5).bind fun v3 =>
    (gI_ S M x0 3 1).bind fun v4 =>
    if wr_i (x5 + 1) < v4 then
      (gR_ S x0 3 0).bind fun v5 =>
      (aI_ S M v5 (wr_i (x5 + 1))).bind fun v6 =>
      f_X3_apply_52 S (fun M x3 x4 x5 => f_X3_apply_9 S x0 x1 x2 n M x3 x4 x5) M x0 x1 x2 x3 x4 x5 v3 v6
    else
      f_X3_apply_52 S (fun M x3 x4 x5 => f_X3_apply_9 S x0 x1 x2 n M x3 x4 x5) M x0 x1 x2 x3 x4 x5 v3 14
  else
    (pI_ S M x0 3 1 x3).bind fun M7 =>
    some M7
def f_X3_apply (S : SH_s) (M : Mem_m) (x0 : Nat) (x1 : Nat) (x2 : Nat) : Option Mem_m :=
  f_X3_apply_9 S x0 x1 x2 FU_ M 0 14 0
def f_X3_hear_2 (S : SH_s) (x0 : Nat) (x1 : Nat) : Nat → Mem_m → Int → Option Mem_m
  | 0, _, _ => none
  | n + 1, M, x2 =>
  (gI_ S M x1 0 9).bind fun v1 =>
  if x2 < v1 then
    (gR_ S x1 0 8).bind fun v2 =>
    (aR_ S v2 24 x2).bind fun v3 =>
    (gR_ S x1 0 0).bind fun v4 =>
    (vc_ S x0 3 (f_X3_apply S M x0 v3 v4)).bind fun M5 =>
    f_X3_hear_2 S x0 x1 n M5 (wr_i (x2 + 1))
  else
    some M
def f_X3_hear (S : SH_s) (M : Mem_m) (x0 : Nat) (x1 : Nat) : Option Mem_m :=
  f_X3_hear_2 S x0 x1 FU_ M 0
def f_X3_outcomesOf_17 (S : SH_s) (k_6 : Int → Int → Option Int) (M : Mem_m) (x1 : Nat) (x3 : Int) : Nat → Int → Int → Option Int
  | 0, _, _ => none
  | n + 1, x2, x4 =>
  if x4 < 10 then
    if an_i (sr_i x2 x4) 1 = 1 then
      (gR_ S x1 0 8).bind fun v1 =>
      (aR_ S v1 24 x3).bind fun v2 =>
      (gI_ S M v2 7 0).bind fun v3 =>
      (gR_ S x1 0 0).bind fun v4 =>
      (f_X7_agrees S M v3 x4 v4).bind fun v5 =>
      if v5 = 0 then
        f_X3_outcomesOf_17 S k_6 M x1 x3 n x2 (wr_i (x4 + 1))
      else
        (gR_ S x1 0 8).bind fun v6 =>
        (aR_ S v6 24 x3).bind fun v7 =>
        (gI_ S M v7 7 1).bind fun v8 =>
        f_X3_outcomesOf_17 S k_6 M x1 x3 n (or_i x2 (sl_i 1 v8)) (wr_i (x4 + 1))
    else
      f_X3_outcomesOf_17 S k_6 M x1 x3 n x2 (wr_i (x4 + 1))
  else
    k_6 x2 (wr_i (x3 + 1))
def f_X3_outcomesOf_6 (S : SH_s) (M : Mem_m) (x1 : Nat) : Nat → Int → Int → Option Int
  | 0, _, _ => none
  | n + 1, x2, x3 =>
  (gI_ S M x1 0 9).bind fun v1 =>
  if x3 < v1 then
    f_X3_outcomesOf_17 S (fun x2 x3 => f_X3_outcomesOf_6 S M x1 n x2 x3) M x1 x3 FU_ x2 0
  else
    some x2
def f_X3_outcomesOf (S : SH_s) (M : Mem_m) (x0 : Int) (x1 : Nat) : Option Int :=
  f_X3_outcomesOf_6 S M x1 FU_ (sl_i 1 x0) 0
def f_X3_findChances_29 (S : SH_s) (k_2 : Mem_m → Int → Option Mem_m) (x0 : Nat) (x1 : Nat) (x2 : Nat) (x3 : Int) (x4 : Int) : Nat → Mem_m → Int → Option Mem_m
  | 0, _, _ => none
  | n + 1, M, x5 =>
  (gI_ S M x2 10 1).bind fun v1 =>
  if x5 < v1 then
    (gR_ S x2 10 0).bind fun v2 =>
    (aI_ S M v2 x5).bind fun v3 =>
    if an_i (sr_i x4 v3) 1 = 1 then
      (gR_ S x0 3 4).bind fun v4 =>
      (aI_ S M v4 x3).bind fun v5 =>
      (sI_ S M v4 x3 (or_i v5 (sl_i 1 x5))).bind fun M6 =>
      f_X3_findChances_29 S k_2 x0 x1 x2 x3 x4 n M6 (wr_i (x5 + 1))
    else
      f_X3_findChances_29 S k_2 x0 x1 x2 x3 x4 n M (wr_i (x5 + 1))
  else
    k_2 M (wr_i (x3 + 1))
def f_X3_findChances_2 (S : SH_s) (x0 : Nat) (x1 : Nat) (x2 : Nat) : Nat → Mem_m → Int → Option Mem_m
  | 0, _, _ => none
  | n + 1, M, x3 =>
  if x3 < 10 then
    (f_X3_outcomesOf S M x3 x1).bind fun v1 =>
    (gR_ S x0 3 4).bind fun v2 =>
    (sI_ S M v2 x3 (an_i v1 65536)).bind fun M3 =>
    f_X3_findChances_29 S (fun M x3 => f_X3_findChances_2 S x0 x1 x2 n M x3) x0 x1 x2 x3 v1 FU_ M3 0
  else
    some M
def f_X3_findChances (S : SH_s) (M : Mem_m) (x0 : Nat) (x1 : Nat) (x2 : Nat) : Option Mem_m :=
  f_X3_findChances_2 S x0 x1 x2 FU_ M 0
def f_X3_isSpelled_8 (S : SH_s) (x0 : Nat) (x1 : Nat) (x2 : Int) (x3 : Int) : Nat → Mem_m → Int → Option (Mem_m × Int)
  | 0, _, _ => none
  | n + 1, M, x4 =>
  if x4 < x3 then
    (gI_ S M x1 0 7).bind fun v1 =>
    if an_i (sr_i v1 (an_i (sr_i x2 (wr_i (4 * (wr_i ((wr_i (x3 - 1)) - x4))))) 15)) 1 = 0 then
      some (M, 0)
    else
      (gR_ S x0 3 2).bind fun v2 =>
      (sI_ S M v2 x4 (an_i (sr_i x2 (wr_i (4 * (wr_i ((wr_i (x3 - 1)) - x4))))) 15)).bind fun M3 =>
      (gR_ S x1 0 5).bind fun v4 =>
      (aR_ S v4 23 (an_i (sr_i x2 (wr_i (4 * (wr_i ((wr_i (x3 - 1)) - x4))))) 15)).bind fun v5 =>
      (gR_ S v5 5 3).bind fun v6 =>
      (gR_ S v6 10 0).bind fun v7 =>
      (gR_ S x0 3 0).bind fun v8 =>
      (gI_ S M3 x0 3 1).bind fun v9 =>
      (gI_ S M3 v6 10 1).bind fun v10 =>
      (cp_ S M3 v7 0 v8 v9 v10).bind fun M11 =>
      (gI_ S M11 x0 3 1).bind fun v12 =>
      (gI_ S M11 v6 10 1).bind fun v13 =>
      (pI_ S M11 x0 3 1 (wr_i (v12 + v13))).bind fun M14 =>
      f_X3_isSpelled_8 S x0 x1 x2 x3 n M14 (wr_i (x4 + 1))
  else
    some (M, 1)
def f_X3_isSpelled (S : SH_s) (M : Mem_m) (x0 : Nat) (x1 : Nat) (x2 : Int) (x3 : Int) : Option (Mem_m × Int) :=
  (pI_ S M x0 3 1 0).bind fun M1 =>
  f_X3_isSpelled_8 S x0 x1 x2 x3 FU_ M1 0
def f_X3_hasChance_38 (S : SH_s) (k_4 : Int → Int → Option Int) (M : Mem_m) (x0 : Nat) (x1 : Int) (x2 : Int) (x3 : Int) (x4 : Int) (s0 : Int) : Option Int :=
  k_4 (or_i s0 (sl_i (an_i x2 x4) 1)) (wr_i (x3 + 1))
def f_X3_hasChance_4 (S : SH_s) (M : Mem_m) (x0 : Nat) (x1 : Int) : Nat → Int → Int → Option Int
  | 0, _, _ => none
  | n + 1, x2, x3 =>
  (gI_ S M x0 3 1).bind fun v1 =>
  if x3 < v1 then
    (gR_ S x0 3 4).bind fun v2 =>
    (gR_ S x0 3 0).bind fun v3 =>
    (aI_ S M v3 x3).bind fun v4 =>
    (aI_ S M v2 v4).bind fun v5 =>
    if an_i v5 65536 = 0 then
      f_X3_hasChance_38 S (fun x2 x3 => f_X3_hasChance_4 S M x0 x1 n x2 x3) M x0 x1 x2 x3 v5 0
    else
      f_X3_hasChance_38 S (fun x2 x3 => f_X3_hasChance_4 S M x0 x1 n x2 x3) M x0 x1 x2 x3 v5 x2
  else
    if an_i (sr_i x2 x1) 1 = 1 then
      some 1
    else
      some 0
def f_X3_hasChance (S : SH_s) (M : Mem_m) (x0 : Nat) (x1 : Int) : Option Int :=
  f_X3_hasChance_4 S M x0 x1 FU_ 1 0
def f_X3_isRowLike_15 (S : SH_s) (M : Mem_m) (x0 : Nat) (x1 : Nat) : Nat → Int → Option Int
  | 0, _ => none
  | n + 1, x2 =>
  (gI_ S M x0 3 1).bind fun v1 =>
  if x2 < v1 then
    (gR_ S x0 3 0).bind fun v2 =>
    (aI_ S M v2 x2).bind fun v3 =>
    (gR_ S x1 10 0).bind fun v4 =>
    (aI_ S M v4 x2).bind fun v5 =>
    if v3 = v5 then
      f_X3_isRowLike_15 S M x0 x1 n (wr_i (x2 + 1))
    else
      some 0
  else
    some 1
def f_X3_isRowLike (S : SH_s) (M : Mem_m) (x0 : Nat) (x1 : Nat) : Option Int :=
  (gI_ S M x0 3 1).bind fun v1 =>
  (gI_ S M x1 10 1).bind fun v2 =>
  if v1 = v2 then
    f_X3_isRowLike_15 S M x0 x1 FU_ 0
  else
    some 0
def f_X3_findDeep_16 (S : SH_s) (k_8 : Mem_m → Int → Option Mem_m) (x0 : Nat) (x1 : Nat) (x2 : Nat) (x3 : Int) : Nat → Mem_m → Int → Option Mem_m
  | 0, _, _ => none
  | n + 1, M, x4 =>
  if x4 < sl_i 1 (wr_i (4 * x3)) then
    (vc_ S x0 3 (f_X3_isSpelled S M x0 x1 x4 x3)).bind fun z1 =>
    if z1.2 = 0 then
      f_X3_findDeep_16 S k_8 x0 x1 x2 x3 n z1.1 (wr_i (x4 + 1))
    else
      (gI_ S z1.1 x2 10 1).bind fun v2 =>
      (vc_ S x0 3 (f_X3_hasChance S z1.1 x0 v2)).bind fun v3 =>
      if v3 = 0 then
        f_X3_findDeep_16 S k_8 x0 x1 x2 x3 n z1.1 (wr_i (x4 + 1))
      else
        (vc_ S x0 3 (f_X3_hear S z1.1 x0 x1)).bind fun M4 =>
        (vc_ S x0 3 (f_X3_isRowLike S M4 x0 x2)).bind fun v5 =>
        if v5 = 0 then
          f_X3_findDeep_16 S k_8 x0 x1 x2 x3 n M4 (wr_i (x4 + 1))
        else
          (pI_ S M4 x0 3 3 x3).bind fun M6 =>
          some M6
  else
    k_8 M (wr_i (x3 + 1))
def f_X3_findDeep_8 (S : SH_s) (x0 : Nat) (x1 : Nat) (x2 : Nat) : Nat → Mem_m → Int → Option Mem_m
  | 0, _, _ => none
  | n + 1, M, x3 =>
  if x3 ≤ 3 then
    f_X3_findDeep_16 S (fun M x3 => f_X3_findDeep_8 S x0 x1 x2 n M x3) x0 x1 x2 x3 FU_ M 0
  else
    (pI_ S M x0 3 3 0).bind fun M1 =>
    some M1
def f_X3_findDeep (S : SH_s) (M : Mem_m) (x0 : Nat) (x1 : Nat) (x2 : Nat) : Option Mem_m :=
  (vc_ S x0 3 (f_X3_findChances S M x0 x1 x2)).bind fun M1 =>
  f_X3_findDeep_8 S x0 x1 x2 FU_ M1 1
def f_X4_findLaw_12 (S : SH_s) (x0 : Nat) (x1 : Int) : Nat → Mem_m → Int → Int → Option Mem_m
  | 0, _, _, _ => none
  | n + 1, M, x2, x3 =>
  if x3 < 10 then
    (gR_ S x0 4 0).bind fun v1 =>
    (aI_ S M v1 (wr_i ((wr_i (x1 * 10)) + x3))).bind fun v2 =>
    if v2 ≤ x2 then
      f_X4_findLaw_12 S x0 x1 n M x2 (wr_i (x3 + 1))
    else
      (gR_ S x0 4 0).bind fun v3 =>
      (aI_ S M v3 (wr_i ((wr_i (x1 * 10)) + x3))).bind fun v4 =>
      (gR_ S x0 4 1).bind fun v5 =>
      (sI_ S M v5 x1 x3).bind fun M6 =>
      f_X4_findLaw_12 S x0 x1 n M6 v4 (wr_i (x3 + 1))
  else
    (gI_ S M x0 4 2).bind fun v7 =>
    (pI_ S M x0 4 2 (wr_i (v7 + x2))).bind fun M8 =>
    some M8
def f_X4_findLaw (S : SH_s) (M : Mem_m) (x0 : Nat) (x1 : Int) : Option Mem_m :=
  (gR_ S x0 4 1).bind fun v1 =>
  (sI_ S M v1 x1 (-4)).bind fun M2 =>
  f_X4_findLaw_12 S x0 x1 FU_ M2 0 0
def f_X4_make_49 (S : SH_s) (k_10 : Mem_m → Int → Option Mem_m) (x0 : Nat) (x1 : Nat) (x2 : Int) (x3 : Nat) (x4 : Nat) : Nat → Mem_m → Int → Option Mem_m
  | 0, _, _ => none
  | n + 1, M, x5 =>
  (gI_ S M x3 10 1).bind fun v1 =>
  (gI_ S M x4 10 1).bind fun v2 =>
  if v1 = v2 then
    (gI_ S M x3 10 1).bind fun v3 =>
    if x5 < v3 then
      (gR_ S x0 4 0).bind fun v4 =>
      (gR_ S x3 10 0).bind fun v5 =>
      (aI_ S M v5 x5).bind fun v6 =>
      (gR_ S x4 10 0).bind fun v7 =>
      (aI_ S M v7 x5).bind fun v8 =>
      (aI_ S M v4 (wr_i ((wr_i (v6 * 10)) + v8))).bind fun v9 =>
      (sI_ S M v4 (wr_i ((wr_i (v6 * 10)) + v8)) (wr_i (v9 + 1))).bind fun M10 =>
      f_X4_make_49 S k_10 x0 x1 x2 x3 x4 n M10 (wr_i (x5 + 1))
    else
      k_10 M (wr_i (x2 + 1))
  else
    k_10 M (wr_i (x2 + 1))
def f_X4_make_117 (S : SH_s) (x0 : Nat) : Nat → Mem_m → Int → Option Mem_m
  | 0, _, _ => none
  | n + 1, M, x2 =>
  if x2 < 10 then
    (vc_ S x0 4 (f_X4_findLaw S M x0 x2)).bind fun M1 =>
    f_X4_make_117 S x0 n M1 (wr_i (x2 + 1))
  else
    some M
def f_X4_make_10 (S : SH_s) (x0 : Nat) (x1 : Nat) : Nat → Mem_m → Int → Option Mem_m
  | 0, _, _ => none
  | n + 1, M, x2 =>
  (gI_ S M x1 0 14).bind fun v1 =>
  if x2 < v1 then
    (gR_ S x1 0 3).bind fun v2 =>
    (gR_ S x1 0 13).bind fun v3 =>
    (aI_ S M v3 x2).bind fun v4 =>
    (aR_ S v2 22 v4).bind fun v5 =>
    (gR_ S v5 1 0).bind fun v6 =>
    (gR_ S x1 0 12).bind fun v7 =>
    (gR_ S x0 4 3).bind fun v8 =>
    (aI_ S M v8 x2).bind fun v9 =>
    (aR_ S v7 26 v9).bind fun v10 =>
    f_X4_make_49 S (fun M x2 => f_X4_make_10 S x0 x1 n M x2) x0 x1 x2 v6 v10 FU_ M 0
  else
    (pI_ S M x0 4 2 0).bind fun M11 =>
    f_X4_make_117 S x0 FU_ M11 0
def f_X4_make (S : SH_s) (M : Mem_m) (x0 : Nat) (x1 : Nat) : Option Mem_m :=
  (gR_ S x0 4 0).bind fun v1 =>
  (f_J7_fill_53178 S M v1 0).bind fun M2 =>
  f_X4_make_10 S x0 x1 FU_ M2 0
def f_X4_makeAsTold_2 (S : SH_s) (x0 : Nat) (x1 : Nat) : Nat → Mem_m → Int → Option Mem_m
  | 0, _, _ => none
  | n + 1, M, x2 =>
  (gI_ S M x1 0 14).bind fun v1 =>
  if x2 < v1 then
    (gR_ S x0 4 3).bind fun v2 =>
    (sI_ S M v2 x2 x2).bind fun M3 =>
    f_X4_makeAsTold_2 S x0 x1 n M3 (wr_i (x2 + 1))
  else
    (vc_ S x0 4 (f_X4_make S M x0 x1)).bind fun M4 =>
    some M4
def f_X4_makeAsTold (S : SH_s) (M : Mem_m) (x0 : Nat) (x1 : Nat) : Option Mem_m :=
  f_X4_makeAsTold_2 S x0 x1 FU_ M 0
def f_X4_isLed_15 (S : SH_s) (M : Mem_m) (x0 : Nat) (x1 : Nat) (x2 : Nat) : Nat → Int → Option Int
  | 0, _ => none
  | n + 1, x3 =>
  (gI_ S M x1 10 1).bind fun v1 =>
  if x3 < v1 then
    (gR_ S x0 4 1).bind fun v2 =>
    (gR_ S x1 10 0).bind fun v3 =>
    (aI_ S M v3 x3).bind fun v4 =>
    (aI_ S M v2 v4).bind fun v5 =>
    (gR_ S x2 10 0).bind fun v6 =>
    (aI_ S M v6 x3).bind fun v7 =>
    if v5 = v7 then
      f_X4_isLed_15 S M x0 x1 x2 n (wr_i (x3 + 1))
    else
      some 0
  else
    some 1
def f_X4_isLed (S : SH_s) (M : Mem_m) (x0 : Nat) (x1 : Nat) (x2 : Nat) : Option Int :=
  (gI_ S M x1 10 1).bind fun v1 =>
  (gI_ S M x2 10 1).bind fun v2 =>
  if v1 = v2 then
    f_X4_isLed_15 S M x0 x1 x2 FU_ 0
  else
    some 0
def f_X4_ledPairs_4 (S : SH_s) (M : Mem_m) (x0 : Nat) (x1 : Nat) : Nat → Int → Int → Option Int
  | 0, _, _ => none
  | n + 1, x2, x3 =>
  (gI_ S M x1 0 14).bind fun v1 =>
  if x3 < v1 then
    (gR_ S x1 0 3).bind fun v2 =>
    (gR_ S x1 0 13).bind fun v3 =>
    (aI_ S M v3 x3).bind fun v4 =>
    (aR_ S v2 22 v4).bind fun v5 =>
    (gR_ S v5 1 0).bind fun v6 =>
    (gR_ S x1 0 12).bind fun v7 =>
    (aR_ S v7 26 x3).bind fun v8 =>
    (vc_ S x0 4 (f_X4_isLed S M x0 v6 v8)).bind fun v9 =>
    if v9 = 0 then
      f_X4_ledPairs_4 S M x0 x1 n x2 (wr_i (x3 + 1))
    else
      f_X4_ledPairs_4 S M x0 x1 n (wr_i (x2 + 1)) (wr_i (x3 + 1))
  else
    some x2
def f_X4_ledPairs (S : SH_s) (M : Mem_m) (x0 : Nat) (x1 : Nat) : Option Int :=
  f_X4_ledPairs_4 S M x0 x1 FU_ 0 0
def f_X4_waysToDeal_4 (S : SH_s) (M : Mem_m) (x0 : Int) : Nat → Int → Int → Option Int
  | 0, _, _ => none
  | n + 1, x1, x2 =>
  if x2 ≤ x0 then
    f_X4_waysToDeal_4 S M x0 n (wr_i (x1 * x2)) (wr_i (x2 + 1))
  else
    some x1
def f_X4_waysToDeal (S : SH_s) (M : Mem_m) (x0 : Int) : Option Int :=
  f_X4_waysToDeal_4 S M x0 FU_ 1 2
def f_X4_swap (S : SH_s) (M : Mem_m) (x0 : Nat) (x1 : Int) (x2 : Int) : Option Mem_m :=
  (gR_ S x0 4 3).bind fun v1 =>
  (aI_ S M v1 x1).bind fun v2 =>
  (gR_ S x0 4 3).bind fun v3 =>
  (gR_ S x0 4 3).bind fun v4 =>
  (aI_ S M v4 x2).bind fun v5 =>
  (sI_ S M v3 x1 v5).bind fun M6 =>
  (gR_ S x0 4 3).bind fun v7 =>
  (sI_ S M6 v7 x2 v2).bind fun M8 =>
  some M8
def f_X4_dealAnew_82 (S : SH_s) (x0 : Nat) : Nat → Mem_m → Int → Int → Option Mem_m
  | 0, _, _, _ => none
  | n + 1, M, x4, x5 =>
  if x4 < x5 then
    (vc_ S x0 4 (f_X4_swap S M x0 x4 x5)).bind fun M1 =>
    f_X4_dealAnew_82 S x0 n M1 (wr_i (x4 + 1)) (wr_i (x5 + (-1)))
  else
    some M
def f_X4_dealAnew_66 (S : SH_s) (M : Mem_m) (x0 : Nat) (x1 : Int) (x2 : Int) (x3 : Int) : Option Mem_m :=
  (vc_ S x0 4 (f_X4_swap S M x0 x2 x3)).bind fun M1 =>
  f_X4_dealAnew_82 S x0 FU_ M1 (wr_i (x2 + 1)) (wr_i (x1 - 1))
def f_X4_dealAnew_40 (S : SH_s) (M : Mem_m) (x0 : Nat) (x1 : Int) (x2 : Int) : Nat → Int → Option Mem_m
  | 0, _ => none
  | n + 1, x3 =>
  if x3 ≤ x2 then
    f_X4_dealAnew_66 S M x0 x1 x2 x3
  else
    (gR_ S x0 4 3).bind fun v1 =>
    (aI_ S M v1 x3).bind fun v2 =>
    (gR_ S x0 4 3).bind fun v3 =>
    (aI_ S M v3 x2).bind fun v4 =>
    if v2 < v4 then
      f_X4_dealAnew_40 S M x0 x1 x2 n (wr_i (x3 + (-1)))
    else
      f_X4_dealAnew_66 S M x0 x1 x2 x3
def f_X4_dealAnew_31 (S : SH_s) (M : Mem_m) (x0 : Nat) (x1 : Int) (x2 : Int) : Option Mem_m :=
  if x2 < 0 then
    some M
  else
    f_X4_dealAnew_40 S M x0 x1 x2 FU_ (wr_i (x1 - 1))
def f_X4_dealAnew_4 (S : SH_s) (M : Mem_m) (x0 : Nat) (x1 : Int) : Nat → Int → Option Mem_m
  | 0, _ => none
  | n + 1, x2 =>
  if x2 < 0 then
    f_X4_dealAnew_31 S M x0 x1 x2
  else
    (gR_ S x0 4 3).bind fun v1 =>
    (aI_ S M v1 x2).bind fun v2 =>
    (gR_ S x0 4 3).bind fun v3 =>
    (aI_ S M v3 (wr_i (x2 + 1))).bind fun v4 =>
    if v2 ≤ v4 then
      f_X4_dealAnew_31 S M x0 x1 x2
    else
      f_X4_dealAnew_4 S M x0 x1 n (wr_i (x2 + (-1)))
def f_X4_dealAnew (S : SH_s) (M : Mem_m) (x0 : Nat) (x1 : Int) : Option Mem_m :=
  f_X4_dealAnew_4 S M x0 x1 FU_ (wr_i (x1 - 2))
def f_X4_countOdds_38 (S : SH_s) (k_16 : Mem_m → Int → Int → Option (Mem_m × Int)) (M : Mem_m) (x0 : Nat) (x1 : Nat) (x2 : Int) (x3 : Int) (x4 : Int) (x5 : Int) : Option (Mem_m × Int) :=
  (gI_ S M x1 0 14).bind fun v1 =>
  (vc_ S x0 4 (f_X4_dealAnew S M x0 v1)).bind fun M2 =>
  k_16 M2 x4 (wr_i (x5 + 1))
def f_X4_countOdds_16 (S : SH_s) (x0 : Nat) (x1 : Nat) (x2 : Int) (x3 : Int) : Nat → Mem_m → Int → Int → Option (Mem_m × Int)
  | 0, _, _, _ => none
  | n + 1, M, x4, x5 =>
  if x5 < x2 then
    (vc_ S x0 4 (f_X4_make S M x0 x1)).bind fun M1 =>
    (gI_ S M1 x0 4 2).bind fun v2 =>
    if v2 < x3 then
      f_X4_countOdds_38 S (fun M x4 x5 => f_X4_countOdds_16 S x0 x1 x2 x3 n M x4 x5) M1 x0 x1 x2 x3 x4 x5
    else
      f_X4_countOdds_38 S (fun M x4 x5 => f_X4_countOdds_16 S x0 x1 x2 x3 n M x4 x5) M1 x0 x1 x2 x3 (wr_i (x4 + 1)) x5
  else
    some (M, x4)
def f_X4_countOdds (S : SH_s) (M : Mem_m) (x0 : Nat) (x1 : Nat) (x2 : Int) : Option (Mem_m × Int) :=
  (vc_ S x0 4 (f_X4_makeAsTold S M x0 x1)).bind fun M1 =>
  (gI_ S M1 x0 4 2).bind fun v2 =>
  f_X4_countOdds_16 S x0 x1 x2 v2 FU_ M1 0 0
def f_X10_clear (S : SH_s) (M : Mem_m) (x0 : Nat) : Option Mem_m :=
  (pI_ S M x0 10 1 0).bind fun M1 =>
  some M1
def f_X10_add (S : SH_s) (M : Mem_m) (x0 : Nat) (x1 : Int) : Option Mem_m :=
  (gI_ S M x0 10 1).bind fun v1 =>
  if v1 < 8 then
    (gR_ S x0 10 0).bind fun v2 =>
    (gI_ S M x0 10 1).bind fun v3 =>
    (sI_ S M v2 v3 x1).bind fun M4 =>
    (gI_ S M4 x0 10 1).bind fun v5 =>
    (pI_ S M4 x0 10 1 (wr_i (v5 + 1))).bind fun M6 =>
    some M6
  else
    some M
def f_X10_takeRow_6 (S : SH_s) (x0 : Nat) (x1 : Nat) : Nat → Mem_m → Int → Option Mem_m
  | 0, _, _ => none
  | n + 1, M, x2 =>
  (gI_ S M x1 9 3).bind fun v1 =>
  if x2 < v1 then
    (gR_ S x1 9 4).bind fun v2 =>
    (aI_ S M v2 x2).bind fun v3 =>
    (vc_ S x0 10 (f_X10_add S M x0 v3)).bind fun M4 =>
    f_X10_takeRow_6 S x0 x1 n M4 (wr_i (x2 + 1))
  else
    some M
def f_X10_takeRow (S : SH_s) (M : Mem_m) (x0 : Nat) (x1 : Nat) : Option Mem_m :=
  (vc_ S x0 10 (f_X10_clear S M x0)).bind fun M1 =>
  f_X10_takeRow_6 S x0 x1 FU_ M1 0
def f_X5_become_40 (S : SH_s) (x0 : Nat) : Nat → Mem_m → Int → Option Mem_m
  | 0, _, _ => none
  | n + 1, M, x4 =>
  (gR_ S x0 5 2).bind fun v1 =>
  (gI_ S M v1 10 1).bind fun v2 =>
  if x4 < v2 then
    (gR_ S x0 5 3).bind fun v3 =>
    (gR_ S x0 5 2).bind fun v4 =>
    (gR_ S v4 10 0).bind fun v5 =>
    (aI_ S M v5 x4).bind fun v6 =>
    (vc_ S v3 10 (f_X10_add S M v3 v6)).bind fun M7 =>
    f_X5_become_40 S x0 n M7 (wr_i (x4 + 1))
  else
    some M
def f_X5_become (S : SH_s) (M : Mem_m) (x0 : Nat) (x1 : Int) (x2 : Int) (x3 : Nat) : Option Mem_m :=
  (pI_ S M x0 5 0 x1).bind fun M1 =>
  (pI_ S M1 x0 5 1 x2).bind fun M2 =>
  (gR_ S x0 5 2).bind fun v3 =>
  (vc_ S v3 10 (f_X10_takeRow S M2 v3 x3)).bind fun M4 =>
  (gR_ S x0 5 3).bind fun v5 =>
  (gR_ S x0 5 2).bind fun v6 =>
  (vc_ S v5 10 (f_X10_take S M4 v5 v6)).bind fun M7 =>
  (gI_ S M7 x0 5 1).bind fun v8 =>
  if v8 = 3 then
    f_X5_become_40 S x0 FU_ M7 0
  else
    some M7
def f_X5_failure (S : SH_s) (M : Mem_m) (x0 : Nat) : Option Int :=
  (gI_ S M x0 5 1).bind fun v1 =>
  if v1 = 2 then
    some (-15)
  else
    (gR_ S x0 5 2).bind fun v2 =>
    (gI_ S M v2 10 1).bind fun v3 =>
    if v3 < 2 then
      some (-15)
    else
      (gI_ S M x0 5 1).bind fun v4 =>
      if v4 = 3 then
        (gR_ S x0 5 2).bind fun v5 =>
        (gR_ S v5 10 0).bind fun v6 =>
        (aI_ S M v6 0).bind fun v7 =>
        some v7
      else
        (gI_ S M x0 5 1).bind fun v8 =>
        if v8 = 4 then
          (gI_ S M x0 5 0).bind fun v9 =>
          some (wr_i (v9 + 100))
        else
          (gI_ S M x0 5 0).bind fun v10 =>
          some v10
def f_X6_addOrder_11 (S : SH_s) (k_2 : Mem_m → Int → Option Mem_m) (x0 : Nat) (x1 : Int) (x2 : Int) : Nat → Mem_m → Int → Option Mem_m
  | 0, _, _ => none
  | n + 1, M, x3 =>
  if x3 < 4 then
    (gR_ S x0 6 0).bind fun v1 =>
    (gR_ S x0 6 1).bind fun v2 =>
    (aI_ S M v2 x2).bind fun v3 =>
    (gR_ S x0 6 1).bind fun v4 =>
    (aI_ S M v4 x3).bind fun v5 =>
    (aI_ S M v1 (wr_i ((wr_i (v3 * 4)) + v5))).bind fun v6 =>
    (sI_ S M v1 (wr_i ((wr_i (v3 * 4)) + v5)) (or_i v6 (sl_i 1 x1))).bind fun M7 =>
    f_X6_addOrder_11 S k_2 x0 x1 x2 n M7 (wr_i (x3 + 1))
  else
    k_2 M (wr_i (x2 + 1))
def f_X6_addOrder_2 (S : SH_s) (x0 : Nat) (x1 : Int) : Nat → Mem_m → Int → Option Mem_m
  | 0, _, _ => none
  | n + 1, M, x2 =>
  if x2 < 4 then
    f_X6_addOrder_11 S (fun M x2 => f_X6_addOrder_2 S x0 x1 n M x2) x0 x1 x2 FU_ M (wr_i (x2 + 1))
  else
    some M
def f_X6_addOrder (S : SH_s) (M : Mem_m) (x0 : Nat) (x1 : Int) : Option Mem_m :=
  f_X6_addOrder_2 S x0 x1 FU_ M 0
def f_X6_spell_2 (S : SH_s) (x0 : Nat) (x1 : Int) (x2 : Int) : Nat → Mem_m → Int → Option Mem_m
  | 0, _, _ => none
  | n + 1, M, x3 =>
  if x3 < x2 then
    (gR_ S x0 6 1).bind fun v1 =>
    (sI_ S M v1 x3 (an_i (sr_i x1 (wr_i (2 * (wr_i ((wr_i (x2 - 1)) - x3))))) 3)).bind fun M2 =>
    f_X6_spell_2 S x0 x1 x2 n M2 (wr_i (x3 + 1))
  else
    some M
def f_X6_spell (S : SH_s) (M : Mem_m) (x0 : Nat) (x1 : Int) (x2 : Int) : Option Mem_m :=
  f_X6_spell_2 S x0 x1 x2 FU_ M 0
def f_X6_isSaying_16 (S : SH_s) (M : Mem_m) (x0 : Nat) (x1 : Int) : Nat → Int → Int → Option Int
  | 0, _, _ => none
  | n + 1, x2, x3 =>
  if x3 < x1 then
    (aI_ S M x0 x3).bind fun v1 =>
    (f_X11_isIn S M v1 4).bind fun v2 =>
    if v2 = 0 then
      some 0
    else
      (aI_ S M x0 x3).bind fun v3 =>
      if an_i (sr_i x2 v3) 1 = 1 then
        some 0
      else
        (aI_ S M x0 x3).bind fun v4 =>
        f_X6_isSaying_16 S M x0 x1 n (or_i x2 (sl_i 1 v4)) (wr_i (x3 + 1))
  else
    some 1
def f_X6_isSaying (S : SH_s) (M : Mem_m) (x0 : Nat) (x1 : Int) : Option Int :=
  if x1 < 1 then
    some 0
  else
    if x1 ≤ 4 then
      f_X6_isSaying_16 S M x0 x1 FU_ 0 0
    else
      some 0
def f_X6_fitting_6 (S : SH_s) (M : Mem_m) (x0 : Nat) (x1 : Nat) (x2 : Int) : Nat → Int → Int → Option Int
  | 0, _, _ => none
  | n + 1, x3, x4 =>
  if x4 < x2 then
    (gR_ S x0 6 0).bind fun v1 =>
    (aI_ S M x1 (wr_i (x4 - 1))).bind fun v2 =>
    (aI_ S M x1 x4).bind fun v3 =>
    (aI_ S M v1 (wr_i ((wr_i (v2 * 4)) + v3))).bind fun v4 =>
    f_X6_fitting_6 S M x0 x1 x2 n (an_i x3 v4) (wr_i (x4 + 1))
  else
    some x3
def f_X6_fitting (S : SH_s) (M : Mem_m) (x0 : Nat) (x1 : Nat) (x2 : Int) : Option Int :=
  f_X6_fitting_6 S M x0 x1 x2 FU_ 16777215 1
def f_J6_bitCount_0f7a4 (S : SH_s) (M : Mem_m) (x0 : Int) : Option Int :=
  some (an_i (wr_i ((wr_i ((an_i (wr_i ((wr_i ((an_i (wr_i (x0 - (an_i (us_i x0 1) 1431655765))) 858993459) + (an_i (us_i (wr_i (x0 - (an_i (us_i x0 1) 1431655765))) 2) 858993459))) + (us_i (wr_i ((an_i (wr_i (x0 - (an_i (us_i x0 1) 1431655765))) 858993459) + (an_i (us_i (wr_i (x0 - (an_i (us_i x0 1) 1431655765))) 2) 858993459))) 4))) 252645135) + (us_i (an_i (wr_i ((wr_i ((an_i (wr_i (x0 - (an_i (us_i x0 1) 1431655765))) 858993459) + (an_i (us_i (wr_i (x0 - (an_i (us_i x0 1) 1431655765))) 2) 858993459))) + (us_i (wr_i ((an_i (wr_i (x0 - (an_i (us_i x0 1) 1431655765))) 858993459) + (an_i (us_i (wr_i (x0 - (an_i (us_i x0 1) 1431655765))) 2) 858993459))) 4))) 252645135) 8))) + (us_i (wr_i ((an_i (wr_i ((wr_i ((an_i (wr_i (x0 - (an_i (us_i x0 1) 1431655765))) 858993459) + (an_i (us_i (wr_i (x0 - (an_i (us_i x0 1) 1431655765))) 2) 858993459))) + (us_i (wr_i ((an_i (wr_i (x0 - (an_i (us_i x0 1) 1431655765))) 858993459) + (an_i (us_i (wr_i (x0 - (an_i (us_i x0 1) 1431655765))) 2) 858993459))) 4))) 252645135) + (us_i (an_i (wr_i ((wr_i ((an_i (wr_i (x0 - (an_i (us_i x0 1) 1431655765))) 858993459) + (an_i (us_i (wr_i (x0 - (an_i (us_i x0 1) 1431655765))) 2) 858993459))) + (us_i (wr_i ((an_i (wr_i (x0 - (an_i (us_i x0 1) 1431655765))) 858993459) + (an_i (us_i (wr_i (x0 - (an_i (us_i x0 1) 1431655765))) 2) 858993459))) 4))) 252645135) 8))) 16))) 63)
def f_X6_weigh_52 (S : SH_s) (x0 : Nat) : Nat → Mem_m → Int → Option Mem_m
  | 0, _, _ => none
  | n + 1, M, x5 =>
  if x5 < 0 then
    some M
  else
    (gI_ S M x0 6 2).bind fun v1 =>
    (gR_ S x0 6 1).bind fun v2 =>
    (aI_ S M v2 x5).bind fun v3 =>
    (pI_ S M x0 6 2 (wr_i ((wr_i ((wr_i (v1 * 5)) + v3)) + 1))).bind fun M4 =>
    f_X6_weigh_52 S x0 n M4 (wr_i (x5 + (-1)))
def f_X6_weigh (S : SH_s) (M : Mem_m) (x0 : Nat) (x1 : Int) (x2 : Int) : Option Mem_m :=
  (gR_ S x0 6 1).bind fun v1 =>
  (vc_ S x0 6 (f_X6_fitting S M x0 v1 x2)).bind fun v2 =>
  (f_J6_bitCount_0f7a4 S M (an_i x1 v2)).bind fun v3 =>
  (f_J6_bitCount_0f7a4 S M x1).bind fun v4 =>
  (gI_ S M x0 6 3).bind fun v6 =>
  if max v3 (wr_i (v4 - v3)) < v6 then
    (pI_ S M x0 6 3 (max v3 (wr_i (v4 - v3)))).bind fun M7 =>
    (pI_ S M7 x0 6 2 0).bind fun M8 =>
    f_X6_weigh_52 S x0 FU_ M8 (wr_i (x2 - 1))
  else
    some M
def f_X6_findAsk_15 (S : SH_s) (k_8 : Mem_m → Int → Option Mem_m) (x0 : Nat) (x1 : Int) (x2 : Int) : Nat → Mem_m → Int → Option Mem_m
  | 0, _, _ => none
  | n + 1, M, x3 =>
  if x3 < sl_i 1 (wr_i (2 * x2)) then
    (vc_ S x0 6 (f_X6_spell S M x0 x3 x2)).bind fun M1 =>
    (gR_ S x0 6 1).bind fun v2 =>
    (f_X6_isSaying S M1 v2 x2).bind fun v3 =>
    if v3 = 0 then
      f_X6_findAsk_15 S k_8 x0 x1 x2 n M1 (wr_i (x3 + 1))
    else
      (vc_ S x0 6 (f_X6_weigh S M1 x0 x1 x2)).bind fun M4 =>
      f_X6_findAsk_15 S k_8 x0 x1 x2 n M4 (wr_i (x3 + 1))
  else
    k_8 M (wr_i (x2 + 1))
def f_X6_findAsk_8 (S : SH_s) (x0 : Nat) (x1 : Int) : Nat → Mem_m → Int → Option Mem_m
  | 0, _, _ => none
  | n + 1, M, x2 =>
  if x2 ≤ 4 then
    f_X6_findAsk_15 S (fun M x2 => f_X6_findAsk_8 S x0 x1 n M x2) x0 x1 x2 FU_ M 0
  else
    some M
def f_X6_findAsk (S : SH_s) (M : Mem_m) (x0 : Nat) (x1 : Int) : Option Mem_m :=
  (pI_ S M x0 6 3 25).bind fun M1 =>
  f_X6_findAsk_8 S x0 x1 FU_ M1 2
def f_X7_readSign (S : SH_s) (M : Mem_m) (x0 : Nat) (x1 : Nat) (x2 : Int) : Option (Mem_m × Int) :=
  (gI_ S M x0 7 4).bind fun v1 =>
  (gI_ S M x1 9 3).bind fun v2 =>
  if v1 < v2 then
    (gR_ S x1 9 4).bind fun v3 =>
    (gI_ S M x0 7 4).bind fun v4 =>
    (aI_ S M v3 v4).bind fun v5 =>
    if v5 = x2 then
      (gI_ S M x0 7 4).bind fun v6 =>
      (pI_ S M x0 7 4 (wr_i (v6 + 1))).bind fun M7 =>
      some (M7, 1)
    else
      some (M, 0)
  else
    some (M, 0)
def f_X7_readDigit (S : SH_s) (M : Mem_m) (x0 : Nat) (x1 : Nat) (x2 : Int) : Option (Mem_m × Int) :=
  (gI_ S M x0 7 4).bind fun v1 =>
  (gI_ S M x1 9 3).bind fun v2 =>
  if v1 < v2 then
    (gR_ S x1 9 4).bind fun v3 =>
    (gI_ S M x0 7 4).bind fun v4 =>
    (aI_ S M v3 v4).bind fun v5 =>
    (f_X11_isIn S M (wr_i (v5 - 48)) x2).bind fun v6 =>
    if v6 = 0 then
      some (M, (-1))
    else
      (gI_ S M x0 7 4).bind fun v7 =>
      (pI_ S M x0 7 4 (wr_i (v7 + 1))).bind fun M8 =>
      (gR_ S x1 9 4).bind fun v9 =>
      (gI_ S M8 x0 7 4).bind fun v10 =>
      (aI_ S M8 v9 (wr_i (v10 - 1))).bind fun v11 =>
      some (M8, wr_i (v11 - 48))
  else
    some (M, (-1))
def f_X7_readSoundOrClass (S : SH_s) (M : Mem_m) (x0 : Nat) (x1 : Nat) : Option (Mem_m × Int) :=
  (vc_ S x0 7 (f_X7_readSign S M x0 x1 67)).bind fun z1 =>
  if z1.2 = 0 then
    (vc_ S x0 7 (f_X7_readDigit S z1.1 x0 x1 10)).bind fun z2 =>
    some (z2.1, z2.2)
  else
    (vc_ S x0 7 (f_X7_readDigit S z1.1 x0 x1 4)).bind fun z3 =>
    if z3.2 = (-1) then
      some (z3.1, (-1))
    else
      some (z3.1, wr_i (10 + z3.2))
def f_X7_readPlace (S : SH_s) (M : Mem_m) (x0 : Nat) (x1 : Nat) : Option (Mem_m × Int) :=
  (vc_ S x0 7 (f_X7_readSign S M x0 x1 35)).bind fun z1 =>
  if z1.2 = 0 then
    (vc_ S x0 7 (f_X7_readSign S z1.1 x0 x1 46)).bind fun z2 =>
    if z2.2 = 0 then
      (vc_ S x0 7 (f_X7_readSoundOrClass S z2.1 x0 x1)).bind fun z3 =>
      some (z3.1, z3.2)
    else
      some (z2.1, 15)
  else
    some (z1.1, 14)
def f_X7_isRead_57 (S : SH_s) (M : Mem_m) (x0 : Nat) (x1 : Nat) (s0 : Int) (s1 : Nat) : Option (Mem_m × Int) :=
  (pI_ S M s1 7 1 s0).bind fun M1 =>
  (gI_ S M1 x0 7 1).bind fun v2 =>
  if v2 = (-1) then
    some (M1, 0)
  else
    (vc_ S x0 7 (f_X7_readSign S M1 x0 x1 47)).bind fun z3 =>
    if z3.2 = 0 then
      some (z3.1, 0)
    else
      (vc_ S x0 7 (f_X7_readPlace S z3.1 x0 x1)).bind fun z4 =>
      (pI_ S z4.1 x0 7 2 z4.2).bind fun M5 =>
      (gI_ S M5 x0 7 2).bind fun v6 =>
      if v6 = (-1) then
        some (M5, 0)
      else
        (vc_ S x0 7 (f_X7_readSign S M5 x0 x1 95)).bind fun z7 =>
        if z7.2 = 0 then
          some (z7.1, 0)
        else
          (vc_ S x0 7 (f_X7_readPlace S z7.1 x0 x1)).bind fun z8 =>
          (pI_ S z8.1 x0 7 3 z8.2).bind fun M9 =>
          (gI_ S M9 x0 7 3).bind fun v10 =>
          if v10 = (-1) then
            some (M9, 0)
          else
            (gI_ S M9 x0 7 4).bind fun v11 =>
            (gI_ S M9 x1 9 3).bind fun v12 =>
            if v11 = v12 then
              some (M9, 1)
            else
              some (M9, 0)
def f_X7_isRead (S : SH_s) (M : Mem_m) (x0 : Nat) (x1 : Nat) : Option (Mem_m × Int) :=
  (pI_ S M x0 7 4 0).bind fun M1 =>
  (vc_ S x0 7 (f_X7_readSoundOrClass S M1 x0 x1)).bind fun z2 =>
  (pI_ S z2.1 x0 7 0 z2.2).bind fun M3 =>
  (gI_ S M3 x0 7 0).bind fun v4 =>
  if v4 = (-1) then
    some (M3, 0)
  else
    (vc_ S x0 7 (f_X7_readSign S M3 x0 x1 62)).bind fun z5 =>
    if z5.2 = 0 then
      some (z5.1, 0)
    else
      (vc_ S x0 7 (f_X7_readSign S z5.1 x0 x1 45)).bind fun z6 =>
      if z6.2 = 0 then
        (vc_ S x0 7 (f_X7_readDigit S z6.1 x0 x1 10)).bind fun z7 =>
        f_X7_isRead_57 S z7.1 x0 x1 z7.2 x0
      else
        f_X7_isRead_57 S z6.1 x0 x1 16 x0
def f_X9_holdNothing (S : SH_s) (M : Mem_m) (x0 : Nat) : Option Mem_m :=
  (pI_ S M x0 9 0 0).bind fun M1 =>
  some M1
def f_X9_holdNote (S : SH_s) (M : Mem_m) (x0 : Nat) (x1 : Nat) : Option Mem_m :=
  (pI_ S M x0 9 0 1).bind fun M1 =>
  (gR_ S x0 9 1).bind fun v2 =>
  (vc_ S v2 5 (f_X5_take S M1 v2 x1)).bind fun M3 =>
  some M3
def f_X9_set (S : SH_s) (M : Mem_m) (x0 : Nat) (x1 : Int) (x2 : Int) : Option Mem_m :=
  (gI_ S M x0 9 2).bind fun v1 =>
  if v1 = 0 then
    (gR_ S x0 9 4).bind fun v2 =>
    (sI_ S M v2 x1 (b8_i x2)).bind fun M3 =>
    some M3
  else
    (gI_ S M x0 9 2).bind fun v4 =>
    if v4 = 1 then
      (gR_ S x0 9 4).bind fun v5 =>
      (sI_ S M v5 x1 (b16_i x2)).bind fun M6 =>
      some M6
    else
      (gR_ S x0 9 4).bind fun v7 =>
      (sI_ S M v7 x1 x2).bind fun M8 =>
      some M8
def f_X9_hasPlaces (S : SH_s) (M : Mem_m) (x0 : Nat) (x1 : Int) (x2 : Int) : Option Int :=
  if x1 < 0 then
    some 0
  else
    (gI_ S M x0 9 3).bind fun v1 =>
    if x1 ≤ v1 then
      (gI_ S M x0 9 3).bind fun v2 =>
      if x2 ≤ wr_i (v2 - x1) then
        some 1
      else
        some 0
    else
      some 0
def f_X9_refusalOfNote (S : SH_s) (M : Mem_m) (x0 : Nat) : Option Int :=
  (gI_ S M x0 9 0).bind fun v1 =>
  if v1 = 0 then
    some (-11)
  else
    (gI_ S M x0 9 0).bind fun v2 =>
    if v2 = 1 then
      some 0
    else
      some (-12)
def f_X9_refusalOfRow (S : SH_s) (M : Mem_m) (x0 : Nat) : Option Int :=
  (gI_ S M x0 9 0).bind fun v1 =>
  if v1 = 0 then
    some (-11)
  else
    (gI_ S M x0 9 0).bind fun v2 =>
    if v2 = 2 then
      some 0
    else
      some (-12)
def f_X9_refusalOfBytes (S : SH_s) (M : Mem_m) (x0 : Nat) : Option Int :=
  (vc_ S x0 9 (f_X9_refusalOfRow S M x0)).bind fun v1 =>
  if v1 = 0 then
    (gI_ S M x0 9 2).bind fun v2 =>
    if v2 = 0 then
      some 0
    else
      some (-12)
  else
    some v1
def f_X9_refusalOfSounds_33 (S : SH_s) (M : Mem_m) (x0 : Nat) : Nat → Int → Option Int
  | 0, _ => none
  | n + 1, x4 =>
  (gI_ S M x0 9 3).bind fun v1 =>
  if x4 < v1 then
    (gR_ S x0 9 4).bind fun v2 =>
    (aI_ S M v2 x4).bind fun v3 =>
    (f_X11_isIn S M v3 10).bind fun v4 =>
    if v4 = 0 then
      some (-13)
    else
      f_X9_refusalOfSounds_33 S M x0 n (wr_i (x4 + 1))
  else
    some 0
def f_X9_refusalOfSounds (S : SH_s) (M : Mem_m) (x0 : Nat) (x1 : Int) (x2 : Int) : Option Int :=
  (vc_ S x0 9 (f_X9_refusalOfBytes S M x0)).bind fun v1 =>
  if v1 = 0 then
    (gI_ S M x0 9 3).bind fun v2 =>
    if v2 < x1 then
      some (-13)
    else
      (gI_ S M x0 9 3).bind fun v3 =>
      if v3 ≤ x2 then
        f_X9_refusalOfSounds_33 S M x0 FU_ 0
      else
        some (-13)
  else
    some v1
def f_X10_isLike (S : SH_s) (M : Mem_m) (x0 : Nat) (x1 : Nat) : Option Int :=
  (gI_ S M x0 10 1).bind fun v1 =>
  (gI_ S M x1 10 1).bind fun v2 =>
  if v1 = v2 then
    (vc_ S x1 10 (f_X10_standsAt S M x1 0 x0)).bind fun v3 =>
    if v3 = 0 then
      some 0
    else
      some 1
  else
    some 0
def f_X11_isTold (S : SH_s) (M : Mem_m) (x0 : Int) : Option Int :=
  (f_X11_isIn S M x0 800).bind fun v1 =>
  if v1 = 0 then
    some 0
  else
    if 10 = 0 then none else
    if 10 = 0 then none else
    if rm_i (dv_i x0 10) 10 < 4 then
      if 10 = 0 then none else
      if rm_i x0 10 < 2 then
        some 1
      else
        some 0
    else
      some 0
def f_X11_card_149 (S : SH_s) (M : Mem_m) (x0 : Nat) (x4 : Int) (x6 : Nat) (s0 : Int) (s1 : Nat) : Option (Mem_m × Int) :=
  (pZ_ S M s1 1 5 s0).bind fun M1 =>
  (pI_ S M1 x6 1 4 x4).bind fun M2 =>
  (pI_ S M2 x6 1 6 0).bind fun M3 =>
  (gR_ S x0 11 0).bind fun v4 =>
  (gI_ S M3 v4 0 4).bind fun v5 =>
  (pI_ S M3 v4 0 4 (wr_i (v5 + 1))).bind fun M6 =>
  (gR_ S x0 11 0).bind fun v7 =>
  (gI_ S M6 v7 0 4).bind fun v8 =>
  some (M6, wr_i (v8 - 1))
def f_X11_card (S : SH_s) (M : Mem_m) (x0 : Nat) (x1 : Int) (x2 : Int) (x3 : Int) (x4 : Int) : Option (Mem_m × Int) :=
  (f_X11_isIn S M x1 8).bind fun v1 =>
  if v1 = 0 then
    some (M, (-1))
  else
    (f_X11_isIn S M x2 1024).bind fun v2 =>
    if v2 = 0 then
      some (M, (-1))
    else
      (f_X11_isTold S M x3).bind fun v3 =>
      if v3 = 0 then
        some (M, (-1))
      else
        (f_X11_isIn S M x4 1000).bind fun v4 =>
        if v4 = 0 then
          some (M, (-1))
        else
          (gR_ S x0 11 0).bind fun v5 =>
          (gI_ S M v5 0 4).bind fun v6 =>
          if v6 < 40 then
            (gR_ S x0 11 3).bind fun v7 =>
            (aR_ S v7 27 x1).bind fun v8 =>
            (vc_ S v8 9 (f_X9_refusalOfSounds S M v8 1 8)).bind fun v9 =>
            if v9 = 0 then
              (gR_ S x0 11 0).bind fun v10 =>
              (gR_ S v10 0 3).bind fun v11 =>
              (gR_ S x0 11 0).bind fun v12 =>
              (gI_ S M v12 0 4).bind fun v13 =>
              (aR_ S v11 22 v13).bind fun v14 =>
              (gR_ S v14 1 0).bind fun v15 =>
              (gR_ S x0 11 3).bind fun v16 =>
              (aR_ S v16 27 x1).bind fun v17 =>
              (vc_ S v15 10 (f_X10_takeRow S M v15 v17)).bind fun M18 =>
              (pI_ S M18 v14 1 1 x2).bind fun M19 =>
              if 100 = 0 then none else
              (pI_ S M19 v14 1 2 (dv_i x3 100)).bind fun M20 =>
              if 10 = 0 then none else
              if 10 = 0 then none else
              (pI_ S M20 v14 1 3 (rm_i (dv_i x3 10) 10)).bind fun M21 =>
              if 10 = 0 then none else
              if rm_i x3 10 = 1 then
                f_X11_card_149 S M21 x0 x4 v14 1 v14
              else
                f_X11_card_149 S M21 x0 x4 v14 0 v14
            else
              some (M, v9)
          else
            some (M, (-2))
def f_X11_about (S : SH_s) (M : Mem_m) (x0 : Nat) (x1 : Int) (x2 : Int) : Option Int :=
  (gR_ S x0 11 0).bind fun v1 =>
  (gI_ S M v1 0 4).bind fun v2 =>
  (f_X11_isIn S M x1 v2).bind fun v3 =>
  if v3 = 0 then
    some (-1)
  else
    (gR_ S x0 11 0).bind fun v4 =>
    (gR_ S v4 0 3).bind fun v5 =>
    (aR_ S v5 22 x1).bind fun v6 =>
    if x2 = 0 then
      (gR_ S v6 1 0).bind fun v8 =>
      (gI_ S M v8 10 1).bind fun v9 =>
      some v9
    else
    if x2 = 1 then
      (gI_ S M v6 1 1).bind fun v11 =>
      some v11
    else
    if x2 = 2 then
      (gI_ S M v6 1 2).bind fun v13 =>
      some v13
    else
    if x2 = 3 then
      (gI_ S M v6 1 3).bind fun v15 =>
      some v15
    else
    if x2 = 4 then
      (gI_ S M v6 1 4).bind fun v17 =>
      some v17
    else
    if x2 = 5 then
      (gI_ S M v6 1 5).bind fun v19 =>
      if v19 = 0 then
        some 0
      else
        some 1
    else
    if x2 = 6 then
      (gI_ S M v6 1 6).bind fun v21 =>
      some v21
    else
    some (-1)
def f_X11_sound (S : SH_s) (M : Mem_m) (x0 : Nat) (x1 : Int) (x2 : Int) : Option Int :=
  (gR_ S x0 11 0).bind fun v1 =>
  (gI_ S M v1 0 4).bind fun v2 =>
  (f_X11_isIn S M x1 v2).bind fun v3 =>
  if v3 = 0 then
    some (-1)
  else
    (gR_ S x0 11 0).bind fun v4 =>
    (gR_ S v4 0 3).bind fun v5 =>
    (aR_ S v5 22 x1).bind fun v6 =>
    (gR_ S v6 1 0).bind fun v7 =>
    (gI_ S M v7 10 1).bind fun v8 =>
    (f_X11_isIn S M x2 v8).bind fun v9 =>
    if v9 = 0 then
      some (-1)
    else
      (gR_ S x0 11 0).bind fun v10 =>
      (gR_ S v10 0 3).bind fun v11 =>
      (aR_ S v11 22 x1).bind fun v12 =>
      (gR_ S v12 1 0).bind fun v13 =>
      (gR_ S v13 10 0).bind fun v14 =>
      (aI_ S M v14 x2).bind fun v15 =>
      some v15
def f_X11_classOf (S : SH_s) (M : Mem_m) (x0 : Nat) (x1 : Int) (x2 : Int) : Option (Mem_m × Int) :=
  (f_X11_isIn S M x1 10).bind fun v1 =>
  if v1 = 0 then
    some (M, (-1))
  else
    (f_X11_isIn S M x2 4).bind fun v2 =>
    if v2 = 0 then
      some (M, (-1))
    else
      (gR_ S x0 11 0).bind fun v3 =>
      (gR_ S v3 0 0).bind fun v4 =>
      (aI_ S M v4 x1).bind fun v5 =>
      (gR_ S x0 11 0).bind fun v6 =>
      (gR_ S v6 0 0).bind fun v7 =>
      (sI_ S M v7 x1 x2).bind fun M8 =>
      some (M8, v5)
def f_X11_speaker_57 (S : SH_s) (M : Mem_m) (x1 : Int) (x3 : Int) (s0 : Nat) : Option (Mem_m × Int) :=
  (aI_ S M s0 x1).bind fun v1 =>
  (sI_ S M s0 x1 x3).bind fun M2 =>
  some (M2, v1)
def f_X11_speaker_28 (S : SH_s) (M : Mem_m) (x0 : Nat) (x1 : Int) (x2 : Int) (x3 : Int) (s0 : Int) (s1 : Int) : Option (Mem_m × Int) :=
  (f_X11_isIn S M s1 s0).bind fun v1 =>
  if v1 = 0 then
    some (M, (-1))
  else
    if x2 = 0 then
      (gR_ S x0 11 0).bind fun v2 =>
      (gR_ S v2 0 1).bind fun v3 =>
      f_X11_speaker_57 S M x1 x3 v3
    else
      (gR_ S x0 11 0).bind fun v4 =>
      (gR_ S v4 0 2).bind fun v5 =>
      f_X11_speaker_57 S M x1 x3 v5
def f_X11_speaker (S : SH_s) (M : Mem_m) (x0 : Nat) (x1 : Int) (x2 : Int) (x3 : Int) : Option (Mem_m × Int) :=
  (f_X11_isIn S M x1 8).bind fun v1 =>
  if v1 = 0 then
    some (M, (-1))
  else
    (f_X11_isIn S M x2 2).bind fun v2 =>
    if v2 = 0 then
      some (M, (-1))
    else
      if x2 = 0 then
        f_X11_speaker_28 S M x0 x1 x2 x3 4 x3
      else
        f_X11_speaker_28 S M x0 x1 x2 x3 100 x3
def f_X11_oneOrTwo (S : SH_s) (M : Mem_m) (x0 : Nat) (x1 : Int) (x2 : Int) : Option Int :=
  (f_X11_isIn S M x1 10).bind fun v1 =>
  if v1 = 0 then
    some (-1)
  else
    (f_X11_isIn S M x2 10).bind fun v2 =>
    if v2 = 0 then
      some (-1)
    else
      if x1 = x2 then
        some (-1)
      else
        (gR_ S x0 11 0).bind fun v3 =>
        (vc_ S v3 0 (f_X0_areTwo S M v3 x1 x2)).bind fun v4 =>
        if v4 = 0 then
          (gR_ S x0 11 0).bind fun v5 =>
          (vc_ S v5 0 (f_X0_doMeet S M v5 x1 x2)).bind fun v6 =>
          if v6 = 0 then
            some 0
          else
            some 1
        else
          some 2
def f_X11_note (S : SH_s) (M : Mem_m) (x0 : Nat) (x1 : Int) (x2 : Int) : Option (Mem_m × Int) :=
  (f_X11_isIn S M x1 8).bind fun v1 =>
  if v1 = 0 then
    some (M, (-1))
  else
    (f_X11_isIn S M x2 5).bind fun v2 =>
    if v2 = 0 then
      some (M, (-1))
    else
      (gR_ S x0 11 0).bind fun v3 =>
      (gI_ S M v3 0 6).bind fun v4 =>
      if v4 < 16 then
        (gR_ S x0 11 3).bind fun v5 =>
        (aR_ S v5 27 x1).bind fun v6 =>
        (vc_ S v6 9 (f_X9_refusalOfSounds S M v6 1 4)).bind fun v7 =>
        if v7 = 0 then
          (gR_ S x0 11 0).bind fun v8 =>
          (gI_ S M v8 0 6).bind fun v9 =>
          (gR_ S x0 11 0).bind fun v10 =>
          (gR_ S v10 0 5).bind fun v11 =>
          (aR_ S v11 23 v9).bind fun v12 =>
          (gR_ S x0 11 3).bind fun v13 =>
          (aR_ S v13 27 x1).bind fun v14 =>
          (vc_ S v12 5 (f_X5_become S M v12 v9 x2 v14)).bind fun M15 =>
          (gR_ S x0 11 0).bind fun v16 =>
          (gI_ S M15 v16 0 7).bind fun v17 =>
          (pI_ S M15 v16 0 7 (or_i v17 (sl_i 1 v9))).bind fun M18 =>
          (gR_ S x0 11 0).bind fun v19 =>
          (gI_ S M18 v19 0 6).bind fun v20 =>
          (pI_ S M18 v19 0 6 (wr_i (v20 + 1))).bind fun M21 =>
          some (M21, v9)
        else
          some (M, v7)
      else
        some (M, (-2))
def f_X11_use_47 (S : SH_s) (M : Mem_m) (x0 : Nat) (x3 : Int) (s0 : Int) (s1 : Nat) : Option (Mem_m × Int) :=
  (pI_ S M s1 0 7 s0).bind fun M1 =>
  (gR_ S x0 11 0).bind fun v2 =>
  (gI_ S M1 v2 0 7).bind fun v3 =>
  if v3 = x3 then
    some (M1, 0)
  else
    some (M1, 1)
def f_X11_use (S : SH_s) (M : Mem_m) (x0 : Nat) (x1 : Int) (x2 : Int) : Option (Mem_m × Int) :=
  (gR_ S x0 11 0).bind fun v1 =>
  (gI_ S M v1 0 6).bind fun v2 =>
  (f_X11_isIn S M x1 v2).bind fun v3 =>
  if v3 = 0 then
    some (M, (-1))
  else
    (gR_ S x0 11 0).bind fun v4 =>
    (gI_ S M v4 0 7).bind fun v5 =>
    (gR_ S x0 11 0).bind fun v6 =>
    if x2 = 0 then
      f_X11_use_47 S M x0 v5 (an_i v5 (xo_i (sl_i 1 x1) (-1))) v6
    else
      f_X11_use_47 S M x0 v5 (or_i v5 (sl_i 1 x1)) v6
def f_X11_meaningOf_9 (S : SH_s) (x0 : Nat) (x1 : Int) : Nat → Mem_m → Int → Int → Int → Option (Mem_m × Int)
  | 0, _, _, _, _ => none
  | n + 1, M, x2, x3, x4 =>
  (gR_ S x0 11 0).bind fun v1 =>
  (gI_ S M v1 0 4).bind fun v2 =>
  if x4 < v2 then
    (gR_ S x0 11 0).bind fun v3 =>
    (gR_ S v3 0 3).bind fun v4 =>
    (aR_ S v4 22 x4).bind fun v5 =>
    (vc_ S v5 1 (f_X1_isCounted S M v5)).bind fun v6 =>
    if v6 = 0 then
      f_X11_meaningOf_9 S x0 x1 n M x2 x3 (wr_i (x4 + 1))
    else
      (gI_ S M v5 1 1).bind fun v7 =>
      if v7 = 0 then
        f_X11_meaningOf_9 S x0 x1 n M x2 x3 (wr_i (x4 + 1))
      else
        (gR_ S x0 11 4).bind fun v8 =>
        (gR_ S x0 11 0).bind fun v9 =>
        (vc_ S v8 2 (f_X2_cutUp S M v8 v9 v5)).bind fun M10 =>
        (gR_ S x0 11 4).bind fun v11 =>
        (gI_ S M10 v11 2 4).bind fun v12 =>
        if an_i (sr_i v12 x1) 1 = 1 then
          (gI_ S M10 v5 1 1).bind fun v13 =>
          f_X11_meaningOf_9 S x0 x1 n M10 (an_i x2 v13) 1 (wr_i (x4 + 1))
        else
          f_X11_meaningOf_9 S x0 x1 n M10 x2 x3 (wr_i (x4 + 1))
  else
    if x3 = 0 then
      some (M, (-4))
    else
      some (M, x2)
def f_X11_meaningOf (S : SH_s) (M : Mem_m) (x0 : Nat) (x1 : Int) : Option (Mem_m × Int) :=
  f_X11_meaningOf_9 S x0 x1 FU_ M 1023 0 0
def f_X11_told (S : SH_s) (M : Mem_m) (x0 : Nat) (x1 : Int) (x2 : Int) : Option (Mem_m × Int) :=
  (gR_ S x0 11 0).bind fun v1 =>
  (gI_ S M v1 0 6).bind fun v2 =>
  (f_X11_isIn S M x1 v2).bind fun v3 =>
  if v3 = 0 then
    some (M, (-1))
  else
    (f_X11_isIn S M x2 2).bind fun v4 =>
    if v4 = 0 then
      some (M, (-1))
    else
      if x2 = 0 then
        (gR_ S x0 11 0).bind fun v5 =>
        (gR_ S v5 0 5).bind fun v6 =>
        (aR_ S v6 23 x1).bind fun v7 =>
        (vc_ S v7 5 (f_X5_lengthTold S M v7)).bind fun v8 =>
        some (M, v8)
      else
        (vc_ S x0 11 (f_X11_meaningOf S M x0 x1)).bind fun z9 =>
        some (z9.1, z9.2)
def f_X11_cut (S : SH_s) (M : Mem_m) (x0 : Nat) (x1 : Int) (x2 : Int) : Option (Mem_m × Int) :=
  (gR_ S x0 11 0).bind fun v1 =>
  (gI_ S M v1 0 4).bind fun v2 =>
  (f_X11_isIn S M x1 v2).bind fun v3 =>
  if v3 = 0 then
    some (M, (-1))
  else
    if x2 < (-1) then
      some (M, (-1))
    else
      (gR_ S x0 11 4).bind fun v4 =>
      (gR_ S x0 11 0).bind fun v5 =>
      (gR_ S x0 11 0).bind fun v6 =>
      (gR_ S v6 0 3).bind fun v7 =>
      (aR_ S v7 22 x1).bind fun v8 =>
      (vc_ S v4 2 (f_X2_cutUp S M v4 v5 v8)).bind fun M9 =>
      if x2 = (-1) then
        (gR_ S x0 11 4).bind fun v10 =>
        (gR_ S v10 2 1).bind fun v11 =>
        (aI_ S M9 v11 0).bind fun v12 =>
        some (M9, v12)
      else
        (gR_ S x0 11 4).bind fun v13 =>
        (gI_ S M9 v13 2 3).bind fun v14 =>
        if x2 < v14 then
          (gR_ S x0 11 4).bind fun v15 =>
          (gR_ S v15 2 2).bind fun v16 =>
          (aI_ S M9 v16 x2).bind fun v17 =>
          some (M9, v17)
        else
          some (M9, (-4))
def f_X11_leastList (S : SH_s) (M : Mem_m) (x0 : Nat) (x1 : Int) : Option (Mem_m × Int) :=
  (f_X11_isIn S M x1 2).bind fun v1 =>
  if v1 = 0 then
    some (M, (-1))
  else
    (gR_ S x0 11 4).bind fun v2 =>
    (gR_ S x0 11 0).bind fun v3 =>
    (vc_ S v2 2 (f_X2_findLeastList S M v2 v3)).bind fun M4 =>
    if x1 = 0 then
      (gR_ S x0 11 4).bind fun v5 =>
      (gI_ S M4 v5 2 8).bind fun v6 =>
      some (M4, v6)
    else
      (gR_ S x0 11 4).bind fun v7 =>
      (gI_ S M4 v7 2 9).bind fun v8 =>
      some (M4, v8)
def f_X11_fault (S : SH_s) (M : Mem_m) (x0 : Nat) (x1 : Int) : Option (Mem_m × Int) :=
  (f_X11_isIn S M x1 8).bind fun v1 =>
  if v1 = 0 then
    some (M, (-1))
  else
    (gR_ S x0 11 3).bind fun v2 =>
    (aR_ S v2 27 x1).bind fun v3 =>
    (vc_ S v3 9 (f_X9_refusalOfBytes S M v3)).bind fun v4 =>
    if v4 = 0 then
      (gR_ S x0 11 8).bind fun v5 =>
      (gR_ S x0 11 3).bind fun v6 =>
      (aR_ S v6 27 x1).bind fun v7 =>
      (vc_ S v5 7 (f_X7_isRead S M v5 v7)).bind fun z8 =>
      if z8.2 = 0 then
        (gR_ S x0 11 8).bind fun v9 =>
        (gI_ S z8.1 v9 7 4).bind fun v10 =>
        some (z8.1, v10)
      else
        some (z8.1, (-4))
    else
      some (M, v4)
def f_X11_rule (S : SH_s) (M : Mem_m) (x0 : Nat) (x1 : Int) : Option (Mem_m × Int) :=
  (f_X11_isIn S M x1 8).bind fun v1 =>
  if v1 = 0 then
    some (M, (-1))
  else
    (gR_ S x0 11 0).bind fun v2 =>
    (gI_ S M v2 0 9).bind fun v3 =>
    if v3 < 8 then
      (gR_ S x0 11 3).bind fun v4 =>
      (aR_ S v4 27 x1).bind fun v5 =>
      (vc_ S v5 9 (f_X9_refusalOfBytes S M v5)).bind fun v6 =>
      if v6 = 0 then
        (gR_ S x0 11 8).bind fun v7 =>
        (gR_ S x0 11 3).bind fun v8 =>
        (aR_ S v8 27 x1).bind fun v9 =>
        (vc_ S v7 7 (f_X7_isRead S M v7 v9)).bind fun z10 =>
        if z10.2 = 0 then
          (gR_ S x0 11 8).bind fun v11 =>
          (gI_ S z10.1 v11 7 4).bind fun v12 =>
          some (z10.1, wr_i ((-100) - v12))
        else
          (gR_ S x0 11 0).bind fun v13 =>
          (gR_ S v13 0 8).bind fun v14 =>
          (gR_ S x0 11 0).bind fun v15 =>
          (gI_ S z10.1 v15 0 9).bind fun v16 =>
          (aR_ S v14 24 v16).bind fun v17 =>
          (gR_ S x0 11 8).bind fun v18 =>
          (vc_ S v17 7 (f_X7_take S z10.1 v17 v18)).bind fun M19 =>
          (gR_ S x0 11 0).bind fun v20 =>
          (gI_ S M19 v20 0 9).bind fun v21 =>
          (pI_ S M19 v20 0 9 (wr_i (v21 + 1))).bind fun M22 =>
          (gR_ S x0 11 0).bind fun v23 =>
          (gI_ S M22 v23 0 9).bind fun v24 =>
          some (M22, wr_i (v24 - 1))
      else
        some (M, v6)
    else
      some (M, (-2))
def f_X11_heard (S : SH_s) (M : Mem_m) (x0 : Nat) (x1 : Int) (x2 : Int) : Option (Mem_m × Int) :=
  (f_X11_isIn S M x1 8).bind fun v1 =>
  if v1 = 0 then
    some (M, (-1))
  else
    (f_X11_isIn S M x2 8).bind fun v2 =>
    if v2 = 0 then
      some (M, (-1))
    else
      (gR_ S x0 11 3).bind fun v3 =>
      (aR_ S v3 27 x1).bind fun v4 =>
      (vc_ S v4 9 (f_X9_refusalOfSounds S M v4 0 80)).bind fun v5 =>
      if v5 = 0 then
        (gR_ S x0 11 5).bind fun v6 =>
        (gR_ S x0 11 3).bind fun v7 =>
        (aR_ S v7 27 x1).bind fun v8 =>
        (vc_ S v6 3 (f_X3_takeRow S M v6 v8)).bind fun M9 =>
        (gR_ S x0 11 5).bind fun v10 =>
        (gR_ S x0 11 0).bind fun v11 =>
        (vc_ S v10 3 (f_X3_hear S M9 v10 v11)).bind fun M12 =>
        (gR_ S x0 11 5).bind fun v13 =>
        (gR_ S x0 11 3).bind fun v14 =>
        (aR_ S v14 27 x2).bind fun v15 =>
        (vc_ S v13 3 (f_X3_giveRow S M12 v13 v15)).bind fun M16 =>
        (gR_ S x0 11 5).bind fun v17 =>
        (gI_ S M16 v17 3 1).bind fun v18 =>
        some (M16, v18)
      else
        some (M, v5)
def f_X11_deep (S : SH_s) (M : Mem_m) (x0 : Nat) (x1 : Int) (x2 : Int) : Option (Mem_m × Int) :=
  (gR_ S x0 11 0).bind fun v1 =>
  (gI_ S M v1 0 4).bind fun v2 =>
  (f_X11_isIn S M x1 v2).bind fun v3 =>
  if v3 = 0 then
    some (M, (-1))
  else
    if x2 < (-1) then
      some (M, (-1))
    else
      (gR_ S x0 11 5).bind fun v4 =>
      (gR_ S x0 11 0).bind fun v5 =>
      (gR_ S x0 11 0).bind fun v6 =>
      (gR_ S v6 0 3).bind fun v7 =>
      (aR_ S v7 22 x1).bind fun v8 =>
      (gR_ S v8 1 0).bind fun v9 =>
      (vc_ S v4 3 (f_X3_findDeep S M v4 v5 v9)).bind fun M10 =>
      if x2 = (-1) then
        (gR_ S x0 11 5).bind fun v11 =>
        (gI_ S M10 v11 3 3).bind fun v12 =>
        if v12 ≤ 0 then
          some (M10, (-4))
        else
          (gR_ S x0 11 5).bind fun v13 =>
          (gI_ S M10 v13 3 3).bind fun v14 =>
          some (M10, v14)
      else
        (gR_ S x0 11 5).bind fun v15 =>
        (gI_ S M10 v15 3 3).bind fun v16 =>
        if x2 < v16 then
          (gR_ S x0 11 5).bind fun v17 =>
          (gR_ S v17 3 2).bind fun v18 =>
          (aI_ S M10 v18 x2).bind fun v19 =>
          some (M10, v19)
        else
          some (M10, (-4))
def f_X11_refusalOfSaying (S : SH_s) (M : Mem_m) (x0 : Nat) : Option Int :=
  (vc_ S x0 9 (f_X9_refusalOfBytes S M x0)).bind fun v1 =>
  if v1 = 0 then
    (gR_ S x0 9 4).bind fun v2 =>
    (gI_ S M x0 9 3).bind fun v3 =>
    (f_X6_isSaying S M v2 v3).bind fun v4 =>
    if v4 = 0 then
      some (-13)
    else
      some 0
  else
    some v1
def f_X11_said_127 (S : SH_s) (M : Mem_m) (x0 : Nat) (x2 : Int) (x3 : Int) (x7 : Nat) (s0 : Int) (s1 : Nat) : Option (Mem_m × Int) :=
  (pI_ S M s1 8 2 s0).bind fun M1 =>
  (pI_ S M1 x7 8 0 x2).bind fun M2 =>
  (pI_ S M2 x7 8 1 x3).bind fun M3 =>
  (gR_ S x0 11 0).bind fun v4 =>
  (gI_ S M3 v4 0 11).bind fun v5 =>
  (pI_ S M3 v4 0 11 (wr_i (v5 + 1))).bind fun M6 =>
  (gR_ S x0 11 0).bind fun v7 =>
  (gI_ S M6 v7 0 11).bind fun v8 =>
  some (M6, wr_i (v8 - 1))
def f_X11_said (S : SH_s) (M : Mem_m) (x0 : Nat) (x1 : Int) (x2 : Int) (x3 : Int) (x4 : Int) : Option (Mem_m × Int) :=
  (f_X11_isIn S M x1 8).bind fun v1 =>
  if v1 = 0 then
    some (M, (-1))
  else
    (f_X11_isIn S M x2 8).bind fun v2 =>
    if v2 = 0 then
      some (M, (-1))
    else
      (f_X11_isIn S M x3 1000).bind fun v3 =>
      if v3 = 0 then
        some (M, (-1))
      else
        (gR_ S x0 11 0).bind fun v4 =>
        (gI_ S M v4 0 11).bind fun v5 =>
        if v5 < 20 then
          (gR_ S x0 11 3).bind fun v6 =>
          (aR_ S v6 27 x1).bind fun v7 =>
          (f_X11_refusalOfSaying S M v7).bind fun v8 =>
          if v8 = 0 then
            (gR_ S x0 11 6).bind fun v9 =>
            (gR_ S x0 11 3).bind fun v10 =>
            (aR_ S v10 27 x1).bind fun v11 =>
            (gR_ S v11 9 4).bind fun v12 =>
            (gR_ S x0 11 3).bind fun v13 =>
            (aR_ S v13 27 x1).bind fun v14 =>
            (gI_ S M v14 9 3).bind fun v15 =>
            (vc_ S v9 6 (f_X6_fitting S M v9 v12 v15)).bind fun v16 =>
            (gR_ S x0 11 0).bind fun v17 =>
            (gR_ S v17 0 10).bind fun v18 =>
            (gR_ S x0 11 0).bind fun v19 =>
            (gI_ S M v19 0 11).bind fun v20 =>
            (aR_ S v18 25 v20).bind fun v21 =>
            if x4 = 0 then
              f_X11_said_127 S M x0 x2 x3 v21 (an_i 16777215 (xo_i v16 (-1))) v21
            else
              f_X11_said_127 S M x0 x2 x3 v21 v16 v21
          else
            some (M, v8)
        else
          some (M, (-2))
def f_X11_isVillageOrAll (S : SH_s) (M : Mem_m) (x0 : Int) : Option Int :=
  if x0 = (-1) then
    some 1
  else
    (f_X11_isIn S M x0 4).bind fun v1 =>
    if v1 = 0 then
      some 0
    else
      some 1
def f_X11_orders_39 (S : SH_s) (M : Mem_m) (x2 : Int) (x3 : Int) : Nat → Int → Int → Option Int
  | 0, _, _ => none
  | n + 1, x4, x5 =>
  if x5 < 24 then
    if an_i (sr_i x3 x5) 1 = 1 then
      if x4 = x2 then
        some x5
      else
        f_X11_orders_39 S M x2 x3 n (wr_i (x4 + 1)) (wr_i (x5 + 1))
    else
      f_X11_orders_39 S M x2 x3 n x4 (wr_i (x5 + 1))
  else
    some (-4)
def f_X11_orders (S : SH_s) (M : Mem_m) (x0 : Nat) (x1 : Int) (x2 : Int) : Option Int :=
  (f_X11_isVillageOrAll S M x1).bind fun v1 =>
  if v1 = 0 then
    some (-1)
  else
    if x2 < (-1) then
      some (-1)
    else
      (gR_ S x0 11 0).bind fun v2 =>
      (vc_ S v2 0 (f_X0_setOfOrders S M v2 x1)).bind fun v3 =>
      if x2 = (-1) then
        (f_J6_bitCount_0f7a4 S M v3).bind fun v4 =>
        some v4
      else
        f_X11_orders_39 S M x2 v3 FU_ 0 0
def f_X11_fits (S : SH_s) (M : Mem_m) (x0 : Nat) (x1 : Int) (x2 : Int) : Option Int :=
  (f_X11_isIn S M x1 8).bind fun v1 =>
  if v1 = 0 then
    some (-1)
  else
    (f_X11_isIn S M x2 24).bind fun v2 =>
    if v2 = 0 then
      some (-1)
    else
      (gR_ S x0 11 3).bind fun v3 =>
      (aR_ S v3 27 x1).bind fun v4 =>
      (f_X11_refusalOfSaying S M v4).bind fun v5 =>
      if v5 = 0 then
        (gR_ S x0 11 6).bind fun v6 =>
        (gR_ S x0 11 3).bind fun v7 =>
        (aR_ S v7 27 x1).bind fun v8 =>
        (gR_ S v8 9 4).bind fun v9 =>
        (gR_ S x0 11 3).bind fun v10 =>
        (aR_ S v10 27 x1).bind fun v11 =>
        (gI_ S M v11 9 3).bind fun v12 =>
        (vc_ S v6 6 (f_X6_fitting S M v6 v9 v12)).bind fun v13 =>
        some (an_i (sr_i v13 x2) 1)
      else
        some v5
def f_X11_ask (S : SH_s) (M : Mem_m) (x0 : Nat) (x1 : Int) (x2 : Int) : Option (Mem_m × Int) :=
  (f_X11_isVillageOrAll S M x1).bind fun v1 =>
  if v1 = 0 then
    some (M, (-1))
  else
    (f_X11_isIn S M x2 2).bind fun v2 =>
    if v2 = 0 then
      some (M, (-1))
    else
      (gR_ S x0 11 0).bind fun v3 =>
      (vc_ S v3 0 (f_X0_setOfOrders S M v3 x1)).bind fun v4 =>
      (f_J6_bitCount_0f7a4 S M v4).bind fun v5 =>
      if v5 < 2 then
        some (M, (-4))
      else
        (gR_ S x0 11 6).bind fun v6 =>
        (vc_ S v6 6 (f_X6_findAsk S M v6 v4)).bind fun M7 =>
        if x2 = 0 then
          (gR_ S x0 11 6).bind fun v8 =>
          (gI_ S M7 v8 6 2).bind fun v9 =>
          some (M7, v9)
        else
          (gR_ S x0 11 6).bind fun v10 =>
          (gI_ S M7 v10 6 3).bind fun v11 =>
          some (M7, v11)
def f_X11_who_30 (S : SH_s) (M : Mem_m) (x0 : Nat) (x1 : Int) (x2 : Int) : Nat → Int → Int → Int → Option Int
  | 0, _, _, _ => none
  | n + 1, x3, x4, x5 =>
  if x5 < 8 then
    (gR_ S x0 11 0).bind fun v1 =>
    (vc_ S v1 0 (f_X0_saidBy S M v1 x5)).bind fun v2 =>
    (gR_ S x0 11 0).bind fun v3 =>
    (gR_ S v3 0 1).bind fun v4 =>
    (aI_ S M v4 x5).bind fun v5 =>
    if v5 = x1 then
      if v2 < x4 then
        (gR_ S x0 11 0).bind fun v6 =>
        (vc_ S v6 0 (f_X0_isRested S M v6 x5 x2)).bind fun v7 =>
        if v7 = 0 then
          f_X11_who_30 S M x0 x1 x2 n x3 x4 (wr_i (x5 + 1))
        else
          f_X11_who_30 S M x0 x1 x2 n x5 v2 (wr_i (x5 + 1))
      else
        f_X11_who_30 S M x0 x1 x2 n x3 x4 (wr_i (x5 + 1))
    else
      f_X11_who_30 S M x0 x1 x2 n x3 x4 (wr_i (x5 + 1))
  else
    some x3
def f_X11_who (S : SH_s) (M : Mem_m) (x0 : Nat) (x1 : Int) (x2 : Int) : Option Int :=
  (f_X11_isIn S M x1 4).bind fun v1 =>
  if v1 = 0 then
    some (-1)
  else
    (f_X11_isIn S M x2 1000).bind fun v2 =>
    if v2 = 0 then
      some (-1)
    else
      f_X11_who_30 S M x0 x1 x2 FU_ (-4) 21 0
def f_X11_none_11 (S : SH_s) (M : Mem_m) (x0 : Nat) (x1 : Int) : Nat → Int → Option Int
  | 0, _ => none
  | n + 1, x2 =>
  if x2 ≤ 3 then
    (gR_ S x0 11 0).bind fun v1 =>
    (vc_ S v1 0 (f_X0_leastWithoutOrder S M v1 x1 x2)).bind fun v2 =>
    if v2 = 0 then
      f_X11_none_11 S M x0 x1 n (wr_i (x2 + 1))
    else
      some v2
  else
    some (-4)
def f_X11_none (S : SH_s) (M : Mem_m) (x0 : Nat) (x1 : Int) : Option Int :=
  (f_X11_isVillageOrAll S M x1).bind fun v1 =>
  if v1 = 0 then
    some (-1)
  else
    f_X11_none_11 S M x0 x1 FU_ 1
def f_X11_reader_28 (S : SH_s) (x0 : Nat) (x1 : Int) (x2 : Int) : Nat → Mem_m → Int → Option (Mem_m × Int)
  | 0, _, _ => none
  | n + 1, M, x4 =>
  (gR_ S x0 11 0).bind fun v1 =>
  (gI_ S M v1 0 4).bind fun v2 =>
  if x4 < v2 then
    (gR_ S x0 11 0).bind fun v3 =>
    (gR_ S v3 0 3).bind fun v4 =>
    (aR_ S v4 22 x4).bind fun v5 =>
    (vc_ S v5 1 (f_X1_isCounted S M v5)).bind fun v6 =>
    if v6 = 0 then
      f_X11_reader_28 S x0 x1 x2 n M (wr_i (x4 + 1))
    else
      (gR_ S x0 11 4).bind fun v7 =>
      (gR_ S x0 11 0).bind fun v8 =>
      (gR_ S x0 11 0).bind fun v9 =>
      (gR_ S v9 0 3).bind fun v10 =>
      (aR_ S v10 22 x4).bind fun v11 =>
      (vc_ S v7 2 (f_X2_cutUp S M v7 v8 v11)).bind fun M12 =>
      (gR_ S x0 11 4).bind fun v13 =>
      (gI_ S M12 v13 2 5).bind fun v14 =>
      if v14 = 0 then
        (gR_ S x0 11 4).bind fun v15 =>
        (gI_ S M12 v15 2 4).bind fun v16 =>
        (f_J6_bitCount_0f7a4 S M12 (an_i v16 (xo_i x1 (-1)))).bind fun v17 =>
        if v17 ≤ x2 then
          some (M12, x4)
        else
          f_X11_reader_28 S x0 x1 x2 n M12 (wr_i (x4 + 1))
      else
        f_X11_reader_28 S x0 x1 x2 n M12 (wr_i (x4 + 1))
  else
    some (M, (-4))
def f_X11_reader (S : SH_s) (M : Mem_m) (x0 : Nat) (x1 : Int) (x2 : Int) (x3 : Int) : Option (Mem_m × Int) :=
  (f_X11_isIn S M x1 65536).bind fun v1 =>
  if v1 = 0 then
    some (M, (-1))
  else
    (f_X11_isIn S M x2 10).bind fun v2 =>
    if v2 = 0 then
      some (M, (-1))
    else
      if x3 < 0 then
        some (M, (-1))
      else
        f_X11_reader_28 S x0 x1 x2 FU_ M x3
def f_X11_neighbour (S : SH_s) (M : Mem_m) (x0 : Nat) (x1 : Int) (x2 : Int) : Option (Mem_m × Int) :=
  (f_X11_isIn S M x1 8).bind fun v1 =>
  if v1 = 0 then
    some (M, (-1))
  else
    (gR_ S x0 11 0).bind fun v2 =>
    (gI_ S M v2 0 4).bind fun v3 =>
    (f_X11_isIn S M x2 v3).bind fun v4 =>
    if v4 = 0 then
      some (M, (-1))
    else
      (gR_ S x0 11 0).bind fun v5 =>
      (gI_ S M v5 0 14).bind fun v6 =>
      if v6 < 10 then
        (gR_ S x0 11 3).bind fun v7 =>
        (aR_ S v7 27 x1).bind fun v8 =>
        (vc_ S v8 9 (f_X9_refusalOfSounds S M v8 1 8)).bind fun v9 =>
        if v9 = 0 then
          (gR_ S x0 11 0).bind fun v10 =>
          (gR_ S v10 0 12).bind fun v11 =>
          (gR_ S x0 11 0).bind fun v12 =>
          (gI_ S M v12 0 14).bind fun v13 =>
          (aR_ S v11 26 v13).bind fun v14 =>
          (gR_ S x0 11 3).bind fun v15 =>
          (aR_ S v15 27 x1).bind fun v16 =>
          (vc_ S v14 10 (f_X10_takeRow S M v14 v16)).bind fun M17 =>
          (gR_ S x0 11 0).bind fun v18 =>
          (gR_ S v18 0 13).bind fun v19 =>
          (gR_ S x0 11 0).bind fun v20 =>
          (gI_ S M17 v20 0 14).bind fun v21 =>
          (sI_ S M17 v19 v21 x2).bind fun M22 =>
          (gR_ S x0 11 0).bind fun v23 =>
          (gI_ S M22 v23 0 14).bind fun v24 =>
          (pI_ S M22 v23 0 14 (wr_i (v24 + 1))).bind fun M25 =>
          (gR_ S x0 11 0).bind fun v26 =>
          (gI_ S M25 v26 0 14).bind fun v27 =>
          some (M25, wr_i (v27 - 1))
        else
          some (M, v9)
      else
        some (M, (-2))
def f_X11_law (S : SH_s) (M : Mem_m) (x0 : Nat) (x1 : Int) : Option (Mem_m × Int) :=
  (f_X11_isIn S M x1 10).bind fun v1 =>
  if v1 = 0 then
    some (M, (-1))
  else
    (gR_ S x0 11 7).bind fun v2 =>
    (gR_ S x0 11 0).bind fun v3 =>
    (vc_ S v2 4 (f_X4_makeAsTold S M v2 v3)).bind fun M4 =>
    (gR_ S x0 11 7).bind fun v5 =>
    (gR_ S v5 4 1).bind fun v6 =>
    (aI_ S M4 v6 x1).bind fun v7 =>
    some (M4, v7)
def f_X11_led (S : SH_s) (M : Mem_m) (x0 : Nat) (x1 : Int) : Option (Mem_m × Int) :=
  (f_X11_isIn S M x1 2).bind fun v1 =>
  if v1 = 0 then
    some (M, (-1))
  else
    (gR_ S x0 11 7).bind fun v2 =>
    (gR_ S x0 11 0).bind fun v3 =>
    (vc_ S v2 4 (f_X4_makeAsTold S M v2 v3)).bind fun M4 =>
    if x1 = 0 then
      (gR_ S x0 11 7).bind fun v5 =>
      (gI_ S M4 v5 4 2).bind fun v6 =>
      some (M4, v6)
    else
      (gR_ S x0 11 7).bind fun v7 =>
      (gR_ S x0 11 0).bind fun v8 =>
      (vc_ S v7 4 (f_X4_ledPairs S M4 v7 v8)).bind fun v9 =>
      some (M4, v9)
def f_X11_odds (S : SH_s) (M : Mem_m) (x0 : Nat) (x1 : Int) : Option (Mem_m × Int) :=
  (f_X11_isIn S M x1 2).bind fun v1 =>
  if v1 = 0 then
    some (M, (-1))
  else
    (gR_ S x0 11 0).bind fun v2 =>
    (gI_ S M v2 0 14).bind fun v3 =>
    if v3 ≤ 7 then
      (gR_ S x0 11 0).bind fun v4 =>
      (gI_ S M v4 0 14).bind fun v5 =>
      (f_X4_waysToDeal S M v5).bind fun v6 =>
      if x1 = 0 then
        (gR_ S x0 11 7).bind fun v7 =>
        (gR_ S x0 11 0).bind fun v8 =>
        (vc_ S v7 4 (f_X4_countOdds S M v7 v8 v6)).bind fun z9 =>
        some (z9.1, z9.2)
      else
        some (M, v6)
    else
      some (M, (-3))
def f_X11_bar_27 (S : SH_s) (x0 : Nat) (x1 : Int) (x2 : Int) (x3 : Int) : Nat → Mem_m → Int → Int → Option (Mem_m × Int)
  | 0, _, _, _ => none
  | n + 1, M, x4, x5 =>
  (gR_ S x0 11 0).bind fun v1 =>
  (gI_ S M v1 0 4).bind fun v2 =>
  if x5 < v2 then
    (gR_ S x0 11 0).bind fun v3 =>
    (gR_ S v3 0 3).bind fun v4 =>
    (aR_ S v4 22 x5).bind fun v5 =>
    (gI_ S M v5 1 2).bind fun v6 =>
    if v6 = x1 then
      (gI_ S M v5 1 6).bind fun v7 =>
      if v7 = x3 then
        if x2 = 0 then
          (pI_ S M v5 1 6 0).bind fun M8 =>
          f_X11_bar_27 S x0 x1 x2 x3 n M8 (wr_i (x4 + 1)) (wr_i (x5 + 1))
        else
          (pI_ S M v5 1 6 1).bind fun M9 =>
          f_X11_bar_27 S x0 x1 x2 x3 n M9 (wr_i (x4 + 1)) (wr_i (x5 + 1))
      else
        f_X11_bar_27 S x0 x1 x2 x3 n M x4 (wr_i (x5 + 1))
    else
      f_X11_bar_27 S x0 x1 x2 x3 n M x4 (wr_i (x5 + 1))
  else
    some (M, x4)
def f_X11_bar (S : SH_s) (M : Mem_m) (x0 : Nat) (x1 : Int) (x2 : Int) : Option (Mem_m × Int) :=
  (f_X11_isIn S M x1 8).bind fun v1 =>
  if v1 = 0 then
    some (M, (-1))
  else
    if x2 = 0 then
      f_X11_bar_27 S x0 x1 x2 1 FU_ M 0 0
    else
      f_X11_bar_27 S x0 x1 x2 0 FU_ M 0 0
def f_X11_takeBack (S : SH_s) (M : Mem_m) (x0 : Nat) (x1 : Int) : Option (Mem_m × Int) :=
  (gR_ S x0 11 0).bind fun v1 =>
  (gI_ S M v1 0 4).bind fun v2 =>
  (f_X11_isIn S M x1 v2).bind fun v3 =>
  if v3 = 0 then
    some (M, (-1))
  else
    (gR_ S x0 11 0).bind fun v4 =>
    (gR_ S v4 0 3).bind fun v5 =>
    (aR_ S v5 22 x1).bind fun v6 =>
    (gI_ S M v6 1 6).bind fun v7 =>
    if v7 = 2 then
      some (M, 0)
    else
      (gR_ S x0 11 0).bind fun v8 =>
      (gR_ S v8 0 3).bind fun v9 =>
      (aR_ S v9 22 x1).bind fun v10 =>
      (pI_ S M v10 1 6 2).bind fun M11 =>
      some (M11, 1)
def f_X11_leaned_37 (S : SH_s) (x0 : Nat) (x1 : Int) : Nat → Mem_m → Int → Int → Option (Mem_m × Int)
  | 0, _, _, _ => none
  | n + 1, M, x2, x3 =>
  (gR_ S x0 11 0).bind fun v1 =>
  (gI_ S M v1 0 4).bind fun v2 =>
  if x3 < v2 then
    if x3 = x1 then
      f_X11_leaned_37 S x0 x1 n M x2 (wr_i (x3 + 1))
    else
      (gR_ S x0 11 0).bind fun v3 =>
      (gR_ S v3 0 3).bind fun v4 =>
      (aR_ S v4 22 x3).bind fun v5 =>
      (vc_ S v5 1 (f_X1_isCounted S M v5)).bind fun v6 =>
      if v6 = 0 then
        f_X11_leaned_37 S x0 x1 n M x2 (wr_i (x3 + 1))
      else
        (gR_ S x0 11 4).bind fun v7 =>
        (gR_ S x0 11 0).bind fun v8 =>
        (gR_ S x0 11 0).bind fun v9 =>
        (gR_ S v9 0 3).bind fun v10 =>
        (aR_ S v10 22 x3).bind fun v11 =>
        (vc_ S v7 2 (f_X2_cutUp S M v7 v8 v11)).bind fun M12 =>
        (gR_ S x0 11 4).bind fun v13 =>
        (gI_ S M12 v13 2 4).bind fun v14 =>
        f_X11_leaned_37 S x0 x1 n M12 (or_i x2 v14) (wr_i (x3 + 1))
  else
    (gR_ S x0 11 4).bind fun v15 =>
    (gR_ S x0 11 0).bind fun v16 =>
    (gR_ S x0 11 0).bind fun v17 =>
    (gR_ S v17 0 3).bind fun v18 =>
    (aR_ S v18 22 x1).bind fun v19 =>
    (vc_ S v15 2 (f_X2_cutUp S M v15 v16 v19)).bind fun M20 =>
    (gR_ S x0 11 4).bind fun v21 =>
    (gI_ S M20 v21 2 4).bind fun v22 =>
    some (M20, an_i v22 (xo_i x2 (-1)))
def f_X11_leaned (S : SH_s) (M : Mem_m) (x0 : Nat) (x1 : Int) : Option (Mem_m × Int) :=
  (gR_ S x0 11 0).bind fun v1 =>
  (gI_ S M v1 0 4).bind fun v2 =>
  (f_X11_isIn S M x1 v2).bind fun v3 =>
  if v3 = 0 then
    some (M, (-1))
  else
    (gR_ S x0 11 0).bind fun v4 =>
    (gR_ S v4 0 3).bind fun v5 =>
    (aR_ S v5 22 x1).bind fun v6 =>
    (vc_ S v6 1 (f_X1_isCounted S M v6)).bind fun v7 =>
    if v7 = 0 then
      some (M, 0)
    else
      f_X11_leaned_37 S x0 x1 FU_ M 0 0
def f_X11_pairsOf_5 (S : SH_s) (M : Mem_m) (x0 : Nat) (x1 : Nat) (x2 : Int) : Nat → Int → Int → Option Int
  | 0, _, _ => none
  | n + 1, x3, x4 =>
  (gR_ S x0 11 0).bind fun v1 =>
  (gI_ S M v1 0 4).bind fun v2 =>
  if x4 < v2 then
    (gR_ S x0 11 0).bind fun v3 =>
    (gR_ S v3 0 3).bind fun v4 =>
    (aR_ S v4 22 x4).bind fun v5 =>
    (vc_ S x1 1 (f_X1_isOtherHearing S M x1 v5)).bind fun v6 =>
    if v6 = 0 then
      f_X11_pairsOf_5 S M x0 x1 x2 n x3 (wr_i (x4 + 1))
    else
      if x2 = 0 then
        f_X11_pairsOf_5 S M x0 x1 x2 n (wr_i (x3 + 1)) (wr_i (x4 + 1))
      else
        (gR_ S x1 1 0).bind fun v7 =>
        (gR_ S v5 1 0).bind fun v8 =>
        (vc_ S v7 10 (f_X10_isLike S M v7 v8)).bind fun v9 =>
        if v9 = 0 then
          f_X11_pairsOf_5 S M x0 x1 x2 n x3 (wr_i (x4 + 1))
        else
          f_X11_pairsOf_5 S M x0 x1 x2 n (wr_i (x3 + 1)) (wr_i (x4 + 1))
  else
    some x3
def f_X11_pairsOf (S : SH_s) (M : Mem_m) (x0 : Nat) (x1 : Nat) (x2 : Int) : Option Int :=
  f_X11_pairsOf_5 S M x0 x1 x2 FU_ 0 0
def f_X11_weight_73 (S : SH_s) (k_23 : Int → Int → Option Int) (M : Mem_m) (x0 : Nat) (x1 : Int) (x2 : Int) (x4 : Int) (s0 : Int) (s1 : Nat) (s2 : Nat) (s3 : Int) : Option Int :=
  (vc_ S s2 11 (f_X11_pairsOf S M s2 s1 s0)).bind fun v1 =>
  k_23 (wr_i (s3 + v1)) (wr_i (x4 + 1))
def f_X11_weight_23 (S : SH_s) (M : Mem_m) (x0 : Nat) (x1 : Int) (x2 : Int) : Nat → Int → Int → Option Int
  | 0, _, _ => none
  | n + 1, x3, x4 =>
  (gR_ S x0 11 0).bind fun v1 =>
  (gI_ S M v1 0 4).bind fun v2 =>
  if x4 < v2 then
    (gR_ S x0 11 0).bind fun v3 =>
    (gR_ S v3 0 3).bind fun v4 =>
    (aR_ S v4 22 x4).bind fun v5 =>
    (gI_ S M v5 1 3).bind fun v6 =>
    if v6 = x1 then
      (gR_ S x0 11 0).bind fun v7 =>
      (gR_ S v7 0 3).bind fun v8 =>
      (aR_ S v8 22 x4).bind fun v9 =>
      if x2 = 0 then
        f_X11_weight_73 S (fun x3 x4 => f_X11_weight_23 S M x0 x1 x2 n x3 x4) M x0 x1 x2 x4 1 v9 x0 x3
      else
        f_X11_weight_73 S (fun x3 x4 => f_X11_weight_23 S M x0 x1 x2 n x3 x4) M x0 x1 x2 x4 0 v9 x0 x3
    else
      f_X11_weight_23 S M x0 x1 x2 n x3 (wr_i (x4 + 1))
  else
    some x3
def f_X11_weight (S : SH_s) (M : Mem_m) (x0 : Nat) (x1 : Int) (x2 : Int) : Option Int :=
  (f_X11_isIn S M x1 4).bind fun v1 =>
  if v1 = 0 then
    some (-1)
  else
    (f_X11_isIn S M x2 2).bind fun v2 =>
    if v2 = 0 then
      some (-1)
    else
      f_X11_weight_23 S M x0 x1 x2 FU_ 0 0
def f_X11_image (S : SH_s) (M : Mem_m) (x0 : Nat) : Option (Mem_m × Int) :=
  (gR_ S x0 11 1).bind fun v1 =>
  (gR_ S x0 11 0).bind fun v2 =>
  (vc_ S v1 0 (f_X0_take S M v1 v2)).bind fun M3 =>
  (pZ_ S M3 x0 11 2 1).bind fun M4 =>
  (gR_ S x0 11 0).bind fun v5 =>
  (gI_ S M4 v5 0 4).bind fun v6 =>
  some (M4, v6)
def f_X11_restore (S : SH_s) (M : Mem_m) (x0 : Nat) : Option (Mem_m × Int) :=
  (gI_ S M x0 11 2).bind fun v1 =>
  if v1 = 0 then
    some (M, (-3))
  else
    (gR_ S x0 11 0).bind fun v2 =>
    (gR_ S x0 11 1).bind fun v3 =>
    (vc_ S v2 0 (f_X0_take S M v2 v3)).bind fun M4 =>
    (gR_ S x0 11 0).bind fun v5 =>
    (gI_ S M4 v5 0 4).bind fun v6 =>
    some (M4, v6)
def f_X11_cardsWithSingles_4 (S : SH_s) (x0 : Nat) : Nat → Mem_m → Int → Int → Option (Mem_m × Int)
  | 0, _, _, _ => none
  | n + 1, M, x1, x2 =>
  (gR_ S x0 11 0).bind fun v1 =>
  (gI_ S M v1 0 4).bind fun v2 =>
  if x2 < v2 then
    (gR_ S x0 11 0).bind fun v3 =>
    (gR_ S v3 0 3).bind fun v4 =>
    (aR_ S v4 22 x2).bind fun v5 =>
    (vc_ S v5 1 (f_X1_isCounted S M v5)).bind fun v6 =>
    if v6 = 0 then
      f_X11_cardsWithSingles_4 S x0 n M x1 (wr_i (x2 + 1))
    else
      (gR_ S x0 11 4).bind fun v7 =>
      (gR_ S x0 11 0).bind fun v8 =>
      (gR_ S x0 11 0).bind fun v9 =>
      (gR_ S v9 0 3).bind fun v10 =>
      (aR_ S v10 22 x2).bind fun v11 =>
      (vc_ S v7 2 (f_X2_cutUp S M v7 v8 v11)).bind fun M12 =>
      (gR_ S x0 11 4).bind fun v13 =>
      (gI_ S M12 v13 2 5).bind fun v14 =>
      if v14 ≤ 0 then
        f_X11_cardsWithSingles_4 S x0 n M12 x1 (wr_i (x2 + 1))
      else
        f_X11_cardsWithSingles_4 S x0 n M12 (wr_i (x1 + 1)) (wr_i (x2 + 1))
  else
    some (M, x1)
def f_X11_cardsWithSingles (S : SH_s) (M : Mem_m) (x0 : Nat) : Option (Mem_m × Int) :=
  f_X11_cardsWithSingles_4 S x0 FU_ M 0 0
def f_X11_count (S : SH_s) (M : Mem_m) (x0 : Nat) (x1 : Int) : Option (Mem_m × Int) :=
  if x1 = 0 then
    (gR_ S x0 11 0).bind fun v2 =>
    (gI_ S M v2 0 4).bind fun v3 =>
    some (M, v3)
  else
  if x1 = 1 then
    (gR_ S x0 11 0).bind fun v5 =>
    (vc_ S v5 0 (f_X0_keptCards S M v5)).bind fun v6 =>
    some (M, v6)
  else
  if x1 = 2 then
    (gR_ S x0 11 0).bind fun v8 =>
    (gI_ S M v8 0 6).bind fun v9 =>
    some (M, v9)
  else
  if x1 = 3 then
    (gR_ S x0 11 0).bind fun v11 =>
    (gI_ S M v11 0 7).bind fun v12 =>
    (f_J6_bitCount_0f7a4 S M v12).bind fun v13 =>
    some (M, v13)
  else
  if x1 = 4 then
    (gR_ S x0 11 0).bind fun v15 =>
    (gI_ S M v15 0 9).bind fun v16 =>
    some (M, v16)
  else
  if x1 = 5 then
    (gR_ S x0 11 0).bind fun v18 =>
    (gI_ S M v18 0 11).bind fun v19 =>
    some (M, v19)
  else
  if x1 = 6 then
    (gR_ S x0 11 0).bind fun v21 =>
    (gI_ S M v21 0 14).bind fun v22 =>
    some (M, v22)
  else
  if x1 = 7 then
    (vc_ S x0 11 (f_X11_cardsWithSingles S M x0)).bind fun z24 =>
    some (z24.1, z24.2)
  else
  some (M, (-1))
def f_X11_keep_38 (S : SH_s) (M : Mem_m) (x0 : Nat) (x1 : Int) (x2 : Int) (x3 : Int) : Option (Mem_m × Int) :=
  if x2 = 0 then
    (gR_ S x0 11 3).bind fun v1 =>
    (aR_ S v1 27 x1).bind fun v2 =>
    (vc_ S v2 9 (f_X9_holdNothing S M v2)).bind fun M3 =>
    some (M3, 0)
  else
    (gR_ S x0 11 3).bind fun v4 =>
    (aR_ S v4 27 x1).bind fun v5 =>
    (gR_ S x0 11 0).bind fun v6 =>
    (gR_ S v6 0 5).bind fun v7 =>
    (aR_ S v7 23 x3).bind fun v8 =>
    (vc_ S v5 9 (f_X9_holdNote S M v5 v8)).bind fun M9 =>
    some (M9, 0)
def f_X11_keep (S : SH_s) (M : Mem_m) (x0 : Nat) (x1 : Int) (x2 : Int) (x3 : Int) : Option (Mem_m × Int) :=
  (f_X11_isIn S M x1 8).bind fun v1 =>
  if v1 = 0 then
    some (M, (-1))
  else
    (f_X11_isIn S M x2 2).bind fun v2 =>
    if v2 = 0 then
      some (M, (-1))
    else
      if x2 = 1 then
        (gR_ S x0 11 0).bind fun v3 =>
        (gI_ S M v3 0 6).bind fun v4 =>
        (f_X11_isIn S M x3 v4).bind fun v5 =>
        if v5 = 0 then
          some (M, (-1))
        else
          f_X11_keep_38 S M x0 x1 x2 x3
      else
        f_X11_keep_38 S M x0 x1 x2 x3
def f_X11_row (S : SH_s) (M : Mem_m) (x0 : Nat) (x1 : Int) (x2 : Int) (x3 : Int) : Option (Mem_m × Int) :=
  (f_X11_isIn S M x1 8).bind fun v1 =>
  if v1 = 0 then
    some (M, (-1))
  else
    (f_X11_isIn S M x2 3).bind fun v2 =>
    if v2 = 0 then
      some (M, (-1))
    else
      if x3 ≤ 80 then
        if x3 < 0 then
          some (M, (-14))
        else
          (gR_ S x0 11 3).bind fun v3 =>
          (aR_ S v3 27 x1).bind fun v4 =>
          (vc_ S v4 9 (f_X9_holdRow S M v4 x2 x3)).bind fun M5 =>
          some (M5, 0)
      else
        some (M, (-1))
def f_X11_put (S : SH_s) (M : Mem_m) (x0 : Nat) (x1 : Int) (x2 : Int) (x3 : Int) : Option (Mem_m × Int) :=
  (f_X11_isIn S M x1 8).bind fun v1 =>
  if v1 = 0 then
    some (M, (-1))
  else
    (gR_ S x0 11 3).bind fun v2 =>
    (aR_ S v2 27 x1).bind fun v3 =>
    (vc_ S v3 9 (f_X9_refusalOfRow S M v3)).bind fun v4 =>
    if v4 = 0 then
      (gR_ S x0 11 3).bind fun v5 =>
      (aR_ S v5 27 x1).bind fun v6 =>
      (gI_ S M v6 9 3).bind fun v7 =>
      (f_X11_isIn S M x2 v7).bind fun v8 =>
      if v8 = 0 then
        some (M, (-13))
      else
        (gR_ S x0 11 3).bind fun v9 =>
        (aR_ S v9 27 x1).bind fun v10 =>
        (vc_ S v10 9 (f_X9_set S M v10 x2 x3)).bind fun M11 =>
        some (M11, 0)
    else
      some (M, v4)
def f_X11_copy (S : SH_s) (M : Mem_m) (x0 : Nat) (x1 : Int) (x2 : Int) (x3 : Int) (x4 : Int) (x5 : Int) : Option (Mem_m × Int) :=
  (f_X11_isIn S M x1 8).bind fun v1 =>
  if v1 = 0 then
    some (M, (-1))
  else
    (f_X11_isIn S M x3 8).bind fun v2 =>
    if v2 = 0 then
      some (M, (-1))
    else
      (gR_ S x0 11 3).bind fun v3 =>
      (aR_ S v3 27 x1).bind fun v4 =>
      (gR_ S x0 11 3).bind fun v5 =>
      (aR_ S v5 27 x3).bind fun v6 =>
      (gI_ S M v4 9 0).bind fun v7 =>
      if v7 = 0 then
        some (M, (-11))
      else
        (gI_ S M v6 9 0).bind fun v8 =>
        if v8 = 0 then
          some (M, (-11))
        else
          (gI_ S M v4 9 0).bind fun v9 =>
          if v9 = 2 then
            (gI_ S M v6 9 0).bind fun v10 =>
            if v10 = 2 then
              (gI_ S M v4 9 2).bind fun v11 =>
              (gI_ S M v6 9 2).bind fun v12 =>
              if v11 = v12 then
                if x5 < 0 then
                  some (M, (-13))
                else
                  (vc_ S v4 9 (f_X9_hasPlaces S M v4 x2 x5)).bind fun v13 =>
                  if v13 = 0 then
                    some (M, (-13))
                  else
                    (vc_ S v6 9 (f_X9_hasPlaces S M v6 x4 x5)).bind fun v14 =>
                    if v14 = 0 then
                      some (M, (-13))
                    else
                      (gR_ S v4 9 4).bind fun v15 =>
                      (gR_ S v6 9 4).bind fun v16 =>
                      (cp_ S M v15 x2 v16 x4 x5).bind fun M17 =>
                      some (M17, x5)
              else
                some (M, (-12))
            else
              some (M, (-12))
          else
            some (M, (-12))
def f_X11_length (S : SH_s) (M : Mem_m) (x0 : Nat) (x1 : Int) : Option Int :=
  (f_X11_isIn S M x1 8).bind fun v1 =>
  if v1 = 0 then
    some (-1)
  else
    (gR_ S x0 11 3).bind fun v2 =>
    (aR_ S v2 27 x1).bind fun v3 =>
    (vc_ S v3 9 (f_X9_refusalOfNote S M v3)).bind fun v4 =>
    if v4 = 0 then
      (gR_ S x0 11 3).bind fun v5 =>
      (aR_ S v5 27 x1).bind fun v6 =>
      (gR_ S v6 9 1).bind fun v7 =>
      (vc_ S v7 5 (f_X5_lengthTold S M v7)).bind fun v8 =>
      some v8
    else
      some v4
def f_X11_toss (S : SH_s) (M : Mem_m) (x0 : Nat) (x1 : Int) : Option Int :=
  (f_X11_isIn S M x1 8).bind fun v1 =>
  if v1 = 0 then
    some (-1)
  else
    (gR_ S x0 11 3).bind fun v2 =>
    (aR_ S v2 27 x1).bind fun v3 =>
    (vc_ S v3 9 (f_X9_refusalOfNote S M v3)).bind fun v4 =>
    if v4 = 0 then
      (gR_ S x0 11 3).bind fun v5 =>
      (aR_ S v5 27 x1).bind fun v6 =>
      (gR_ S v6 9 1).bind fun v7 =>
      (vc_ S v7 5 (f_X5_failure S M v7)).bind fun v8 =>
      some v8
    else
      some v4
def f_X12_thrown (S : SH_s) (M : Mem_m) (x0 : Nat) : Option Int :=
  (gI_ S M x0 12 9).bind fun v1 =>
  some v1
def f_X12_isIn (S : SH_s) (M : Mem_m) (x0 : Int) (x2 : Int) (x4 : Int) : Option Int :=
  if (if x0 < x2 then -1 else if x2 < x0 then 1 else 0) < 0 then
    some 0
  else
    if (if x0 < x4 then -1 else if x4 < x0 then 1 else 0) ≤ 0 then
      some 1
    else
      some 0
def f_X12_isCard (S : SH_s) (M : Mem_m) (x0 : Nat) (x1 : Int) : Option Int :=
  (gR_ S x0 12 0).bind fun v1 =>
  (aI_ S M v1 1062).bind fun v2 =>
  (f_X12_isIn S M x1 0 (wr_i (v2 - 1))).bind fun v3 =>
  if v3 = 0 ∨ v3 = 1 then some v3 else none
def f_X12_isNote (S : SH_s) (M : Mem_m) (x0 : Nat) (x1 : Int) : Option Int :=
  (gR_ S x0 12 0).bind fun v1 =>
  (aI_ S M v1 1063).bind fun v2 =>
  (f_X12_isIn S M x1 0 (wr_i (v2 - 1))).bind fun v3 =>
  if v3 = 0 ∨ v3 = 1 then some v3 else none
def f_X12_isShelf (S : SH_s) (M : Mem_m) (x0 : Int) : Option Int :=
  (f_X12_isIn S M x0 0 7).bind fun v1 =>
  if v1 = 0 ∨ v1 = 1 then some v1 else none
def f_X12_of (S : SH_s) (M : Mem_m) (x0 : Nat) (x1 : Int) (x2 : Int) : Option Int :=
  (gR_ S x0 12 0).bind fun v1 =>
  (aI_ S M v1 (wr_i ((wr_i (15 * x1)) + x2))).bind fun v2 =>
  some v2
def f_X12_noteOf (S : SH_s) (M : Mem_m) (x0 : Nat) (x1 : Int) (x2 : Int) : Option Int :=
  (gR_ S x0 12 0).bind fun v1 =>
  (aI_ S M v1 (wr_i ((wr_i (600 + (wr_i (7 * x1)))) + x2))).bind fun v2 =>
  some v2
def f_X12_becomes (S : SH_s) (M : Mem_m) (x0 : Nat) (x1 : Int) (x2 : Int) : Option (Mem_m × Int) :=
  (gR_ S x0 12 0).bind fun v1 =>
  (aI_ S M v1 x1).bind fun v2 =>
  (gR_ S x0 12 0).bind fun v3 =>
  (sI_ S M v3 x1 x2).bind fun M4 =>
  some (M4, v2)
def f_X12_wrongRow (S : SH_s) (M : Mem_m) (x0 : Nat) (x1 : Int) (x2 : Int) : Option Int :=
  (f_X12_isShelf S M x1).bind fun v1 =>
  if v1 = 0 then
    some (-1)
  else
    (gR_ S x0 12 2).bind fun v2 =>
    (aI_ S M v2 x1).bind fun v3 =>
    if v3 = 0 then
      some (-11)
    else
      (gR_ S x0 12 2).bind fun v4 =>
      (aI_ S M v4 x1).bind fun v5 =>
      if v5 = 2 then
        if x2 < 0 then
          some 0
        else
          (gR_ S x0 12 3).bind fun v6 =>
          (aI_ S M v6 x1).bind fun v7 =>
          if v7 = x2 then
            some 0
          else
            some (-12)
      else
        some (-12)
def f_X12_wrongSounds_39 (S : SH_s) (M : Mem_m) (x0 : Nat) (x1 : Int) : Nat → Int → Option Int
  | 0, _ => none
  | n + 1, x5 =>
  (gR_ S x0 12 4).bind fun v1 =>
  (aI_ S M v1 x1).bind fun v2 =>
  if x5 < v2 then
    (gR_ S x0 12 5).bind fun v3 =>
    (aI_ S M v3 (wr_i ((wr_i (80 * x1)) + x5))).bind fun v4 =>
    (f_X12_isIn S M v4 0 9).bind fun v5 =>
    if v5 = 0 then
      some (-13)
    else
      f_X12_wrongSounds_39 S M x0 x1 n (wr_i (x5 + 1))
  else
    some 0
def f_X12_wrongSounds (S : SH_s) (M : Mem_m) (x0 : Nat) (x1 : Int) (x2 : Int) (x3 : Int) : Option Int :=
  (vc_ S x0 12 (f_X12_wrongRow S M x0 x1 0)).bind fun v1 =>
  if v1 = 0 then
    (gR_ S x0 12 4).bind fun v2 =>
    (aI_ S M v2 x1).bind fun v3 =>
    (f_X12_isIn S M v3 x2 x3).bind fun v4 =>
    if v4 = 0 then
      some (-13)
    else
      f_X12_wrongSounds_39 S M x0 x1 FU_ 0
  else
    some v1
def f_X12_card_156 (S : SH_s) (x0 : Nat) (x1 : Int) (x2 : Int) (x3 : Int) (x4 : Int) (x6 : Int) : Nat → Mem_m → Int → Option (Mem_m × Int)
  | 0, _, _ => none
  | n + 1, M, x7 =>
  (gR_ S x0 12 4).bind fun v1 =>
  (aI_ S M v1 x1).bind fun v2 =>
  if x7 < v2 then
    (gR_ S x0 12 0).bind fun v3 =>
    (gR_ S x0 12 5).bind fun v4 =>
    (aI_ S M v4 (wr_i ((wr_i (80 * x1)) + x7))).bind fun v5 =>
    (sI_ S M v3 (wr_i ((wr_i (x6 + 1)) + x7)) v5).bind fun M6 =>
    f_X12_card_156 S x0 x1 x2 x3 x4 x6 n M6 (wr_i (x7 + 1))
  else
    (gR_ S x0 12 0).bind fun v7 =>
    (sI_ S M v7 (wr_i (x6 + 9)) x2).bind fun M8 =>
    (gR_ S x0 12 0).bind fun v9 =>
    if 100 = 0 then none else
    (sI_ S M8 v9 (wr_i (x6 + 10)) (dv_i x3 100)).bind fun M10 =>
    (gR_ S x0 12 0).bind fun v11 =>
    if 10 = 0 then none else
    if 10 = 0 then none else
    (sI_ S M10 v11 (wr_i (x6 + 11)) (rm_i (dv_i x3 10) 10)).bind fun M12 =>
    (gR_ S x0 12 0).bind fun v13 =>
    (sI_ S M12 v13 (wr_i (x6 + 12)) x4).bind fun M14 =>
    (gR_ S x0 12 0).bind fun v15 =>
    if 10 = 0 then none else
    (sI_ S M14 v15 (wr_i (x6 + 13)) (rm_i x3 10)).bind fun M16 =>
    (gR_ S x0 12 0).bind fun v17 =>
    (aI_ S M16 v17 1062).bind fun v18 =>
    (sI_ S M16 v17 1062 (wr_i (v18 + 1))).bind fun M19 =>
    (gR_ S x0 12 0).bind fun v20 =>
    (aI_ S M19 v20 1062).bind fun v21 =>
    some (M19, wr_i (v21 - 1))
def f_X12_card_116 (S : SH_s) (x0 : Nat) (x1 : Int) (x2 : Int) (x3 : Int) (x4 : Int) (x6 : Int) : Nat → Mem_m → Int → Option (Mem_m × Int)
  | 0, _, _ => none
  | n + 1, M, x7 =>
  if x7 < 15 then
    (gR_ S x0 12 0).bind fun v1 =>
    (sI_ S M v1 (wr_i (x6 + x7)) 0).bind fun M2 =>
    f_X12_card_116 S x0 x1 x2 x3 x4 x6 n M2 (wr_i (x7 + 1))
  else
    (gR_ S x0 12 0).bind fun v3 =>
    (gR_ S x0 12 4).bind fun v4 =>
    (aI_ S M v4 x1).bind fun v5 =>
    (sI_ S M v3 x6 v5).bind fun M6 =>
    f_X12_card_156 S x0 x1 x2 x3 x4 x6 FU_ M6 0
def f_X12_card (S : SH_s) (M : Mem_m) (x0 : Nat) (x1 : Int) (x2 : Int) (x3 : Int) (x4 : Int) : Option (Mem_m × Int) :=
  (f_X12_isShelf S M x1).bind fun v1 =>
  if v1 = 0 then
    some (M, (-1))
  else
    (f_X12_isIn S M x2 0 1023).bind fun v2 =>
    if v2 = 0 then
      some (M, (-1))
    else
      if x3 < 0 then
        some (M, (-1))
      else
        if 100 = 0 then none else
        if dv_i x3 100 ≤ 7 then
          if 10 = 0 then none else
          if 10 = 0 then none else
          if rm_i (dv_i x3 10) 10 ≤ 3 then
            if 10 = 0 then none else
            if rm_i x3 10 ≤ 1 then
              (f_X12_isIn S M x4 0 999).bind fun v3 =>
              if v3 = 0 then
                some (M, (-1))
              else
                (gR_ S x0 12 0).bind fun v4 =>
                (aI_ S M v4 1062).bind fun v5 =>
                if v5 = 40 then
                  some (M, (-2))
                else
                  (vc_ S x0 12 (f_X12_wrongSounds S M x0 x1 1 8)).bind fun v6 =>
                  if v6 = 0 then
                    (gR_ S x0 12 0).bind fun v7 =>
                    (aI_ S M v7 1062).bind fun v8 =>
                    f_X12_card_116 S x0 x1 x2 x3 x4 (wr_i (15 * v8)) FU_ M 0
                  else
                    some (M, v6)
            else
              some (M, (-1))
          else
            some (M, (-1))
        else
          some (M, (-1))
def f_X12_about_34 (S : SH_s) (M : Mem_m) (s0 : Int) (s1 : Int) (s2 : Nat) : Option Int :=
  (vc_ S s2 12 (f_X12_of S M s2 s1 s0)).bind fun v1 =>
  some v1
def f_X12_about (S : SH_s) (M : Mem_m) (x0 : Nat) (x1 : Int) (x2 : Int) : Option Int :=
  (vc_ S x0 12 (f_X12_isCard S M x0 x1)).bind fun v1 =>
  if v1 = 0 then
    some (-1)
  else
    (f_X12_isIn S M x2 0 6).bind fun v2 =>
    if v2 = 0 then
      some (-1)
    else
      if x2 = 0 then
        f_X12_about_34 S M 0 x1 x0
      else
        f_X12_about_34 S M (wr_i (x2 + 8)) x1 x0
def f_X12_sound (S : SH_s) (M : Mem_m) (x0 : Nat) (x1 : Int) (x2 : Int) : Option Int :=
  (vc_ S x0 12 (f_X12_isCard S M x0 x1)).bind fun v1 =>
  if v1 = 0 then
    some (-1)
  else
    (vc_ S x0 12 (f_X12_of S M x0 x1 0)).bind fun v2 =>
    (f_X12_isIn S M x2 0 (wr_i (v2 - 1))).bind fun v3 =>
    if v3 = 0 then
      some (-1)
    else
      (vc_ S x0 12 (f_X12_of S M x0 x1 (wr_i (1 + x2)))).bind fun v4 =>
      some v4
def f_X12_classOf (S : SH_s) (M : Mem_m) (x0 : Nat) (x1 : Int) (x2 : Int) : Option (Mem_m × Int) :=
  (f_X12_isIn S M x1 0 9).bind fun v1 =>
  if v1 = 0 then
    some (M, (-1))
  else
    (f_X12_isIn S M x2 0 3).bind fun v2 =>
    if v2 = 0 then
      some (M, (-1))
    else
      (vc_ S x0 12 (f_X12_becomes S M x0 (wr_i (1036 + x1)) x2)).bind fun z3 =>
      some (z3.1, z3.2)
def f_X12_speaker_60 (S : SH_s) (M : Mem_m) (x1 : Int) (x3 : Int) (s0 : Int) (s1 : Nat) : Option (Mem_m × Int) :=
  (vc_ S s1 12 (f_X12_becomes S M s1 (wr_i (s0 + x1)) x3)).bind fun z1 =>
  some (z1.1, z1.2)
def f_X12_speaker_38 (S : SH_s) (M : Mem_m) (x0 : Nat) (x1 : Int) (x2 : Int) (x3 : Int) (s0 : Int) (s1 : Int) (s2 : Int) : Option (Mem_m × Int) :=
  (f_X12_isIn S M s2 s1 s0).bind fun v1 =>
  if v1 = 0 then
    some (M, (-1))
  else
    if x2 = 0 then
      f_X12_speaker_60 S M x1 x3 1046 x0
    else
      f_X12_speaker_60 S M x1 x3 1054 x0
def f_X12_speaker (S : SH_s) (M : Mem_m) (x0 : Nat) (x1 : Int) (x2 : Int) (x3 : Int) : Option (Mem_m × Int) :=
  (f_X12_isIn S M x1 0 7).bind fun v1 =>
  if v1 = 0 then
    some (M, (-1))
  else
    (f_X12_isIn S M x2 0 1).bind fun v2 =>
    if v2 = 0 then
      some (M, (-1))
    else
      if x2 = 0 then
        f_X12_speaker_38 S M x0 x1 x2 x3 3 0 x3
      else
        f_X12_speaker_38 S M x0 x1 x2 x3 99 0 x3
def f_X12_counts (S : SH_s) (M : Mem_m) (x0 : Nat) (x1 : Int) : Option Int :=
  (vc_ S x0 12 (f_X12_of S M x0 x1 13)).bind fun v1 =>
  if v1 = 1 then
    (vc_ S x0 12 (f_X12_of S M x0 x1 14)).bind fun v2 =>
    if v2 = 0 then
      some 1
    else
      some 0
  else
    some 0
def f_X12_others_5 (S : SH_s) (x0 : Nat) (x1 : Int) (x2 : Int) : Nat → Mem_m → Int → Int → Option (Mem_m × Int)
  | 0, _, _, _ => none
  | n + 1, M, x3, x4 =>
  (vc_ S x0 12 (f_X12_of S M x0 x1 0)).bind fun v1 =>
  if x4 < v1 then
    (vc_ S x0 12 (f_X12_of S M x0 x1 (wr_i (1 + x4)))).bind fun v2 =>
    (vc_ S x0 12 (f_X12_of S M x0 x2 (wr_i (1 + x4)))).bind fun v3 =>
    if v2 = v3 then
      f_X12_others_5 S x0 x1 x2 n M x3 (wr_i (x4 + 1))
    else
      (pI_ S M x0 12 10 x4).bind fun M4 =>
      f_X12_others_5 S x0 x1 x2 n M4 (wr_i (x3 + 1)) (wr_i (x4 + 1))
  else
    some (M, x3)
def f_X12_others (S : SH_s) (M : Mem_m) (x0 : Nat) (x1 : Int) (x2 : Int) : Option (Mem_m × Int) :=
  f_X12_others_5 S x0 x1 x2 FU_ M 0 0
def f_X12_areTwo_17 (S : SH_s) (k_2 : Mem_m → Int → Option (Mem_m × Int)) (x0 : Nat) (x1 : Int) (x2 : Int) (x3 : Int) : Nat → Mem_m → Int → Option (Mem_m × Int)
  | 0, _, _ => none
  | n + 1, M, x4 =>
  (gR_ S x0 12 0).bind fun v1 =>
  (aI_ S M v1 1062).bind fun v2 =>
  if x4 < v2 then
    (vc_ S x0 12 (f_X12_counts S M x0 x3)).bind fun v3 =>
    if v3 = 0 then
      f_X12_areTwo_17 S k_2 x0 x1 x2 x3 n M (wr_i (x4 + 1))
    else
      (vc_ S x0 12 (f_X12_counts S M x0 x4)).bind fun v4 =>
      if v4 = 0 then
        f_X12_areTwo_17 S k_2 x0 x1 x2 x3 n M (wr_i (x4 + 1))
      else
        (vc_ S x0 12 (f_X12_of S M x0 x3 0)).bind fun v5 =>
        (vc_ S x0 12 (f_X12_of S M x0 x4 0)).bind fun v6 =>
        if v5 = v6 then
          (vc_ S x0 12 (f_X12_of S M x0 x3 9)).bind fun v7 =>
          if v7 = 0 then
            f_X12_areTwo_17 S k_2 x0 x1 x2 x3 n M (wr_i (x4 + 1))
          else
            (vc_ S x0 12 (f_X12_of S M x0 x4 9)).bind fun v8 =>
            if v8 = 0 then
              f_X12_areTwo_17 S k_2 x0 x1 x2 x3 n M (wr_i (x4 + 1))
            else
              (vc_ S x0 12 (f_X12_of S M x0 x3 9)).bind fun v9 =>
              (vc_ S x0 12 (f_X12_of S M x0 x4 9)).bind fun v10 =>
              if v9 = v10 then
                f_X12_areTwo_17 S k_2 x0 x1 x2 x3 n M (wr_i (x4 + 1))
              else
                (vc_ S x0 12 (f_X12_others S M x0 x3 x4)).bind fun z11 =>
                if z11.2 = 1 then
                  (gI_ S z11.1 x0 12 10).bind fun v12 =>
                  (vc_ S x0 12 (f_X12_of S z11.1 x0 x3 (wr_i (1 + v12)))).bind fun v13 =>
                  if v13 = x1 then
                    (gI_ S z11.1 x0 12 10).bind fun v14 =>
                    (vc_ S x0 12 (f_X12_of S z11.1 x0 x4 (wr_i (1 + v14)))).bind fun v15 =>
                    if v15 = x2 then
                      some (z11.1, 1)
                    else
                      f_X12_areTwo_17 S k_2 x0 x1 x2 x3 n z11.1 (wr_i (x4 + 1))
                  else
                    f_X12_areTwo_17 S k_2 x0 x1 x2 x3 n z11.1 (wr_i (x4 + 1))
                else
                  f_X12_areTwo_17 S k_2 x0 x1 x2 x3 n z11.1 (wr_i (x4 + 1))
        else
          f_X12_areTwo_17 S k_2 x0 x1 x2 x3 n M (wr_i (x4 + 1))
  else
    k_2 M (wr_i (x3 + 1))
def f_X12_areTwo_2 (S : SH_s) (x0 : Nat) (x1 : Int) (x2 : Int) : Nat → Mem_m → Int → Option (Mem_m × Int)
  | 0, _, _ => none
  | n + 1, M, x3 =>
  (gR_ S x0 12 0).bind fun v1 =>
  (aI_ S M v1 1062).bind fun v2 =>
  if x3 < v2 then
    f_X12_areTwo_17 S (fun M x3 => f_X12_areTwo_2 S x0 x1 x2 n M x3) x0 x1 x2 x3 FU_ M 0
  else
    some (M, 0)
def f_X12_areTwo (S : SH_s) (M : Mem_m) (x0 : Nat) (x1 : Int) (x2 : Int) : Option (Mem_m × Int) :=
  f_X12_areTwo_2 S x0 x1 x2 FU_ M 0
def f_X12_beside (S : SH_s) (M : Mem_m) (x0 : Nat) (x1 : Int) (x2 : Int) : Option Int :=
  (vc_ S x0 12 (f_X12_of S M x0 x1 0)).bind fun v1 =>
  (f_X12_isIn S M x2 0 (wr_i (v1 - 1))).bind fun v2 =>
  if v2 = 0 then
    some (-1)
  else
    (vc_ S x0 12 (f_X12_of S M x0 x1 (wr_i (1 + x2)))).bind fun v3 =>
    some v3
def f_X12_stands_19 (S : SH_s) (k_3 : Int → Option Int) (M : Mem_m) (x0 : Nat) (x1 : Int) (x2 : Int) (x3 : Int) (x4 : Int) : Nat → Int → Option Int
  | 0, _ => none
  | n + 1, x5 =>
  (vc_ S x0 12 (f_X12_of S M x0 x4 0)).bind fun v1 =>
  if x5 < v1 then
    (vc_ S x0 12 (f_X12_counts S M x0 x4)).bind fun v2 =>
    if v2 = 0 then
      k_3 (wr_i (x4 + 1))
    else
      (vc_ S x0 12 (f_X12_of S M x0 x4 (wr_i (1 + x5)))).bind fun v3 =>
      if v3 = x1 then
        (vc_ S x0 12 (f_X12_beside S M x0 x4 (wr_i (x5 - 1)))).bind fun v4 =>
        if v4 = x2 then
          (vc_ S x0 12 (f_X12_beside S M x0 x4 (wr_i (x5 + 1)))).bind fun v5 =>
          if v5 = x3 then
            some 1
          else
            f_X12_stands_19 S k_3 M x0 x1 x2 x3 x4 n (wr_i (x5 + 1))
        else
          f_X12_stands_19 S k_3 M x0 x1 x2 x3 x4 n (wr_i (x5 + 1))
      else
        f_X12_stands_19 S k_3 M x0 x1 x2 x3 x4 n (wr_i (x5 + 1))
  else
    k_3 (wr_i (x4 + 1))
def f_X12_stands_3 (S : SH_s) (M : Mem_m) (x0 : Nat) (x1 : Int) (x2 : Int) (x3 : Int) : Nat → Int → Option Int
  | 0, _ => none
  | n + 1, x4 =>
  (gR_ S x0 12 0).bind fun v1 =>
  (aI_ S M v1 1062).bind fun v2 =>
  if x4 < v2 then
    f_X12_stands_19 S (fun x4 => f_X12_stands_3 S M x0 x1 x2 x3 n x4) M x0 x1 x2 x3 x4 FU_ 0
  else
    some 0
def f_X12_stands (S : SH_s) (M : Mem_m) (x0 : Nat) (x1 : Int) (x2 : Int) (x3 : Int) : Option Int :=
  f_X12_stands_3 S M x0 x1 x2 x3 FU_ 0
def f_X12_oneOrTwo_53 (S : SH_s) (k_44 : Int → Option (Mem_m × Int)) (M : Mem_m) (x0 : Nat) (x1 : Int) (x2 : Int) (x3 : Int) : Nat → Int → Option (Mem_m × Int)
  | 0, _ => none
  | n + 1, x4 =>
  if x4 < 10 then
    (vc_ S x0 12 (f_X12_stands S M x0 x1 x3 x4)).bind fun v1 =>
    if v1 = 0 then
      f_X12_oneOrTwo_53 S k_44 M x0 x1 x2 x3 n (wr_i (x4 + 1))
    else
      (vc_ S x0 12 (f_X12_stands S M x0 x2 x3 x4)).bind fun v2 =>
      if v2 = 0 then
        f_X12_oneOrTwo_53 S k_44 M x0 x1 x2 x3 n (wr_i (x4 + 1))
      else
        some (M, 1)
  else
    k_44 (wr_i (x3 + 1))
def f_X12_oneOrTwo_44 (S : SH_s) (M : Mem_m) (x0 : Nat) (x1 : Int) (x2 : Int) : Nat → Int → Option (Mem_m × Int)
  | 0, _ => none
  | n + 1, x3 =>
  if x3 < 10 then
    f_X12_oneOrTwo_53 S (fun x3 => f_X12_oneOrTwo_44 S M x0 x1 x2 n x3) M x0 x1 x2 x3 FU_ (-1)
  else
    some (M, 0)
def f_X12_oneOrTwo (S : SH_s) (M : Mem_m) (x0 : Nat) (x1 : Int) (x2 : Int) : Option (Mem_m × Int) :=
  (f_X12_isIn S M x1 0 9).bind fun v1 =>
  if v1 = 0 then
    some (M, (-1))
  else
    (f_X12_isIn S M x2 0 9).bind fun v2 =>
    if v2 = 0 then
      some (M, (-1))
    else
      if x1 = x2 then
        some (M, (-1))
      else
        (vc_ S x0 12 (f_X12_areTwo S M x0 x1 x2)).bind fun z3 =>
        if z3.2 = 0 then
          f_X12_oneOrTwo_44 S z3.1 x0 x1 x2 FU_ (-1)
        else
          some (z3.1, 2)
def f_X12_note_94 (S : SH_s) (x0 : Nat) (x1 : Int) (x4 : Int) : Nat → Mem_m → Int → Option (Mem_m × Int)
  | 0, _, _ => none
  | n + 1, M, x5 =>
  if x5 < 4 then
    (gR_ S x0 12 0).bind fun v1 =>
    (gR_ S x0 12 4).bind fun v2 =>
    (aI_ S M v2 x1).bind fun v3 =>
    if x5 < v3 then
      (gR_ S x0 12 5).bind fun v4 =>
      (aI_ S M v4 (wr_i ((wr_i (80 * x1)) + x5))).bind fun v5 =>
      (sI_ S M v1 (wr_i ((wr_i (x4 + 2)) + x5)) v5).bind fun M6 =>
      f_X12_note_94 S x0 x1 x4 n M6 (wr_i (x5 + 1))
    else
      (sI_ S M v1 (wr_i ((wr_i (x4 + 2)) + x5)) 0).bind fun M7 =>
      f_X12_note_94 S x0 x1 x4 n M7 (wr_i (x5 + 1))
  else
    (gR_ S x0 12 0).bind fun v8 =>
    (sI_ S M v8 (wr_i (x4 + 6)) 1).bind fun M9 =>
    (gR_ S x0 12 0).bind fun v10 =>
    (aI_ S M9 v10 1063).bind fun v11 =>
    (sI_ S M9 v10 1063 (wr_i (v11 + 1))).bind fun M12 =>
    (gR_ S x0 12 0).bind fun v13 =>
    (aI_ S M12 v13 1063).bind fun v14 =>
    some (M12, wr_i (v14 - 1))
def f_X12_note (S : SH_s) (M : Mem_m) (x0 : Nat) (x1 : Int) (x2 : Int) : Option (Mem_m × Int) :=
  (f_X12_isShelf S M x1).bind fun v1 =>
  if v1 = 0 then
    some (M, (-1))
  else
    (f_X12_isIn S M x2 0 4).bind fun v2 =>
    if v2 = 0 then
      some (M, (-1))
    else
      (gR_ S x0 12 0).bind fun v3 =>
      (aI_ S M v3 1063).bind fun v4 =>
      if v4 = 16 then
        some (M, (-2))
      else
        (vc_ S x0 12 (f_X12_wrongSounds S M x0 x1 1 4)).bind fun v5 =>
        if v5 = 0 then
          (gR_ S x0 12 0).bind fun v6 =>
          (aI_ S M v6 1063).bind fun v7 =>
          (gR_ S x0 12 0).bind fun v8 =>
          (sI_ S M v8 (wr_i (600 + (wr_i (7 * v7)))) x2).bind fun M9 =>
          (gR_ S x0 12 0).bind fun v10 =>
          (gR_ S x0 12 4).bind fun v11 =>
          (aI_ S M9 v11 x1).bind fun v12 =>
          (sI_ S M9 v10 (wr_i ((wr_i (600 + (wr_i (7 * v7)))) + 1)) v12).bind fun M13 =>
          f_X12_note_94 S x0 x1 (wr_i (600 + (wr_i (7 * v7)))) FU_ M13 0
        else
          some (M, v5)
def f_X12_use_45 (S : SH_s) (M : Mem_m) (s0 : Int) (s1 : Int) : Option (Mem_m × Int) :=
  if s1 = s0 then
    some (M, 0)
  else
    some (M, 1)
def f_X12_use_31 (S : SH_s) (M : Mem_m) (x2 : Int) (s0 : Int) (s1 : Int) (s2 : Nat) : Option (Mem_m × Int) :=
  (vc_ S s2 12 (f_X12_becomes S M s2 s1 s0)).bind fun z1 =>
  if x2 = 0 then
    f_X12_use_45 S z1.1 0 z1.2
  else
    f_X12_use_45 S z1.1 1 z1.2
def f_X12_use (S : SH_s) (M : Mem_m) (x0 : Nat) (x1 : Int) (x2 : Int) : Option (Mem_m × Int) :=
  (vc_ S x0 12 (f_X12_isNote S M x0 x1)).bind fun v1 =>
  if v1 = 0 then
    some (M, (-1))
  else
    if x2 = 0 then
      f_X12_use_31 S M x2 0 (wr_i ((wr_i (600 + (wr_i (7 * x1)))) + 6)) x0
    else
      f_X12_use_31 S M x2 1 (wr_i ((wr_i (600 + (wr_i (7 * x1)))) + 6)) x0
def f_X12_lengthOf (S : SH_s) (M : Mem_m) (x0 : Nat) (x1 : Int) : Option Int :=
  (vc_ S x0 12 (f_X12_noteOf S M x0 x1 1)).bind fun v1 =>
  (vc_ S x0 12 (f_X12_noteOf S M x0 x1 0)).bind fun v2 =>
  if v2 = 1 then
    some (wr_i ((wr_i (v1 + 1)) + 2))
  else
  if v2 = 2 then
    some (wr_i (v1 + 1))
  else
  if v2 = 3 then
    some (wr_i ((wr_i (2 * (wr_i (v1 + 1)))) - 1))
  else
  if v2 = 4 then
    some (wr_i ((wr_i (v1 + 1)) + 5))
  else
  some (wr_i (v1 + 1))
def f_X12_wide (S : SH_s) (M : Mem_m) (x0 : Nat) (x1 : Int) : Option Int :=
  (vc_ S x0 12 (f_X12_noteOf S M x0 x1 0)).bind fun v1 =>
  if v1 = 3 then
    (vc_ S x0 12 (f_X12_noteOf S M x0 x1 1)).bind fun v2 =>
    some (wr_i (2 * v2))
  else
    (vc_ S x0 12 (f_X12_noteOf S M x0 x1 1)).bind fun v3 =>
    some v3
def f_X12_soundOf (S : SH_s) (M : Mem_m) (x0 : Nat) (x1 : Int) (x2 : Int) : Option Int :=
  (vc_ S x0 12 (f_X12_noteOf S M x0 x1 1)).bind fun v1 =>
  if v1 = 0 then none else
  (vc_ S x0 12 (f_X12_noteOf S M x0 x1 (wr_i (2 + (rm_i x2 v1))))).bind fun v2 =>
  some v2
def f_X12_standsAt_31 (S : SH_s) (M : Mem_m) (x0 : Nat) (x1 : Int) (x2 : Int) (x3 : Int) : Nat → Int → Option Int
  | 0, _ => none
  | n + 1, x4 =>
  (vc_ S x0 12 (f_X12_wide S M x0 x1)).bind fun v1 =>
  if x4 < v1 then
    (vc_ S x0 12 (f_X12_of S M x0 x2 (wr_i ((wr_i (1 + x3)) + x4)))).bind fun v2 =>
    (vc_ S x0 12 (f_X12_soundOf S M x0 x1 x4)).bind fun v3 =>
    if v2 = v3 then
      f_X12_standsAt_31 S M x0 x1 x2 x3 n (wr_i (x4 + 1))
    else
      some 0
  else
    some 1
def f_X12_standsAt (S : SH_s) (M : Mem_m) (x0 : Nat) (x1 : Int) (x2 : Int) (x3 : Int) : Option Int :=
  (vc_ S x0 12 (f_X12_noteOf S M x0 x1 6)).bind fun v1 =>
  if v1 = 0 then
    some 0
  else
    (vc_ S x0 12 (f_X12_wide S M x0 x1)).bind fun v2 =>
    (vc_ S x0 12 (f_X12_of S M x0 x2 0)).bind fun v3 =>
    if wr_i (x3 + v2) ≤ v3 then
      f_X12_standsAt_31 S M x0 x1 x2 x3 FU_ 0
    else
      some 0
def f_X12_cuts_175 (S : SH_s) (k_21 : Mem_m → Int → Option Mem_m) (k_63 : Mem_m → Int → Int → Option Mem_m) (M : Mem_m) (x0 : Nat) (x1 : Int) (x2 : Int) (x4 : Int) (x5 : Int) : Option Mem_m :=
  (gR_ S x0 12 11).bind fun v1 =>
  (sI_ S M v1 x2 x5).bind fun M2 =>
  (gR_ S x0 12 12).bind fun v3 =>
  (sI_ S M2 v3 x2 x4).bind fun M4 =>
  (vc_ S x0 12 (f_X12_wide S M4 x0 x4)).bind fun v5 =>
  k_63 M4 v5 (wr_i (x4 + 1))
def f_X12_cuts_143 (S : SH_s) (k_21 : Mem_m → Int → Option Mem_m) (k_63 : Mem_m → Int → Int → Option Mem_m) (M : Mem_m) (x0 : Nat) (x1 : Int) (x2 : Int) (x3 : Int) (x4 : Int) (x5 : Int) (s0 : Int) : Option Mem_m :=
  (gR_ S x0 12 11).bind fun v1 =>
  (aI_ S M v1 x2).bind fun v2 =>
  if x5 ≤ v2 then
    (gR_ S x0 12 11).bind fun v3 =>
    (aI_ S M v3 x2).bind fun v4 =>
    if x5 = v4 then
      if s0 = 0 then
        k_63 M x3 (wr_i (x4 + 1))
      else
        f_X12_cuts_175 S k_21 k_63 M x0 x1 x2 x4 x5
    else
      f_X12_cuts_175 S k_21 k_63 M x0 x1 x2 x4 x5
  else
    k_63 M x3 (wr_i (x4 + 1))
def f_X12_cuts_138 (S : SH_s) (k_21 : Mem_m → Int → Option Mem_m) (k_63 : Mem_m → Int → Int → Option Mem_m) (M : Mem_m) (x0 : Nat) (x1 : Int) (x2 : Int) (x3 : Int) (x4 : Int) (x5 : Int) : Option Mem_m :=
  f_X12_cuts_143 S k_21 k_63 M x0 x1 x2 x3 x4 x5 1
def f_X12_cuts_142 (S : SH_s) (k_21 : Mem_m → Int → Option Mem_m) (k_63 : Mem_m → Int → Int → Option Mem_m) (M : Mem_m) (x0 : Nat) (x1 : Int) (x2 : Int) (x3 : Int) (x4 : Int) (x5 : Int) : Option Mem_m :=
  f_X12_cuts_143 S k_21 k_63 M x0 x1 x2 x3 x4 x5 0
def f_X12_cuts_63 (S : SH_s) (k_21 : Mem_m → Int → Option Mem_m) (x0 : Nat) (x1 : Int) (x2 : Int) : Nat → Mem_m → Int → Int → Option Mem_m
  | 0, _, _, _ => none
  | n + 1, M, x3, x4 =>
  (gR_ S x0 12 0).bind fun v1 =>
  (aI_ S M v1 1063).bind fun v2 =>
  if x4 < v2 then
    (vc_ S x0 12 (f_X12_standsAt S M x0 x4 x1 x2)).bind fun v3 =>
    if v3 = 0 then
      f_X12_cuts_63 S k_21 x0 x1 x2 n M x3 (wr_i (x4 + 1))
    else
      (gR_ S x0 12 11).bind fun v4 =>
      (vc_ S x0 12 (f_X12_wide S M x0 x4)).bind fun v5 =>
      (aI_ S M v4 (wr_i (x2 + v5))).bind fun v6 =>
      (vc_ S x0 12 (f_X12_wide S M x0 x4)).bind fun v7 =>
      if v7 ≤ x3 then
        (vc_ S x0 12 (f_X12_wide S M x0 x4)).bind fun v8 =>
        if v8 = x3 then
          (gR_ S x0 12 12).bind fun v9 =>
          (aI_ S M v9 x2).bind fun v10 =>
          if v10 < 100 then
            f_X12_cuts_142 S k_21 (fun M x3 x4 => f_X12_cuts_63 S k_21 x0 x1 x2 n M x3 x4) M x0 x1 x2 x3 x4 (wr_i (2 + v6))
          else
            f_X12_cuts_138 S k_21 (fun M x3 x4 => f_X12_cuts_63 S k_21 x0 x1 x2 n M x3 x4) M x0 x1 x2 x3 x4 (wr_i (2 + v6))
        else
          f_X12_cuts_142 S k_21 (fun M x3 x4 => f_X12_cuts_63 S k_21 x0 x1 x2 n M x3 x4) M x0 x1 x2 x3 x4 (wr_i (2 + v6))
      else
        f_X12_cuts_138 S k_21 (fun M x3 x4 => f_X12_cuts_63 S k_21 x0 x1 x2 n M x3 x4) M x0 x1 x2 x3 x4 (wr_i (2 + v6))
  else
    k_21 M (wr_i (x2 + (-1)))
def f_X12_cuts_21 (S : SH_s) (x0 : Nat) (x1 : Int) : Nat → Mem_m → Int → Option Mem_m
  | 0, _, _ => none
  | n + 1, M, x2 =>
  if x2 < 0 then
    some M
  else
    (gR_ S x0 12 11).bind fun v1 =>
    (gR_ S x0 12 11).bind fun v2 =>
    (aI_ S M v2 (wr_i (x2 + 1))).bind fun v3 =>
    (sI_ S M v1 x2 (wr_i (5 + v3))).bind fun M4 =>
    (gR_ S x0 12 12).bind fun v5 =>
    (vc_ S x0 12 (f_X12_of S M4 x0 x1 (wr_i (1 + x2)))).bind fun v6 =>
    (sI_ S M4 v5 x2 (wr_i (100 + v6))).bind fun M7 =>
    f_X12_cuts_63 S (fun M x2 => f_X12_cuts_21 S x0 x1 n M x2) x0 x1 x2 FU_ M7 1 0
def f_X12_cuts (S : SH_s) (M : Mem_m) (x0 : Nat) (x1 : Int) : Option Mem_m :=
  (gR_ S x0 12 11).bind fun v1 =>
  (vc_ S x0 12 (f_X12_of S M x0 x1 0)).bind fun v2 =>
  (sI_ S M v1 v2 0).bind fun M3 =>
  (vc_ S x0 12 (f_X12_of S M3 x0 x1 0)).bind fun v4 =>
  f_X12_cuts_21 S x0 x1 FU_ M3 (wr_i (v4 - 1))
def f_X12_next (S : SH_s) (M : Mem_m) (x0 : Nat) (x1 : Int) : Option Int :=
  (gR_ S x0 12 12).bind fun v1 =>
  (aI_ S M v1 x1).bind fun v2 =>
  if v2 < 100 then
    (gR_ S x0 12 12).bind fun v3 =>
    (aI_ S M v3 x1).bind fun v4 =>
    (vc_ S x0 12 (f_X12_wide S M x0 v4)).bind fun v5 =>
    some (wr_i (x1 + v5))
  else
    some (wr_i (x1 + 1))
def f_X12_cut_64 (S : SH_s) (M : Mem_m) (x0 : Nat) (x1 : Int) (x3 : Int) : Option (Mem_m × Int) :=
  (vc_ S x0 12 (f_X12_of S M x0 x1 0)).bind fun v1 =>
  if x3 < v1 then
    (gR_ S x0 12 12).bind fun v2 =>
    (aI_ S M v2 x3).bind fun v3 =>
    some (M, v3)
  else
    some (M, (-4))
def f_X12_cut_36 (S : SH_s) (M : Mem_m) (x0 : Nat) (x1 : Int) (x2 : Int) : Nat → Int → Int → Option (Mem_m × Int)
  | 0, _, _ => none
  | n + 1, x3, x4 =>
  if x4 < x2 then
    (vc_ S x0 12 (f_X12_of S M x0 x1 0)).bind fun v1 =>
    if x3 < v1 then
      (vc_ S x0 12 (f_X12_next S M x0 x3)).bind fun v2 =>
      f_X12_cut_36 S M x0 x1 x2 n v2 (wr_i (x4 + 1))
    else
      f_X12_cut_64 S M x0 x1 x3
  else
    f_X12_cut_64 S M x0 x1 x3
def f_X12_cut (S : SH_s) (M : Mem_m) (x0 : Nat) (x1 : Int) (x2 : Int) : Option (Mem_m × Int) :=
  (vc_ S x0 12 (f_X12_isCard S M x0 x1)).bind fun v1 =>
  if v1 = 0 then
    some (M, (-1))
  else
    if x2 < (-1) then
      some (M, (-1))
    else
      (vc_ S x0 12 (f_X12_cuts S M x0 x1)).bind fun M2 =>
      if x2 < 0 then
        (gR_ S x0 12 11).bind fun v3 =>
        (aI_ S M2 v3 0).bind fun v4 =>
        some (M2, v4)
      else
        f_X12_cut_36 S M2 x0 x1 x2 FU_ 0 0
def f_X12_notesOf_43 (S : SH_s) (k_9 : Int → Int → Option (Mem_m × Int)) (M : Mem_m) (x0 : Nat) (x1 : Int) (x3 : Int) (s0 : Int) (s1 : Int) (s2 : Int) : Option (Mem_m × Int) :=
  (vc_ S x0 12 (f_X12_next S M x0 x3)).bind fun v1 =>
  k_9 (or_i s2 (sl_i s1 s0)) v1
def f_X12_notesOf_9 (S : SH_s) (M : Mem_m) (x0 : Nat) (x1 : Int) : Nat → Int → Int → Option (Mem_m × Int)
  | 0, _, _ => none
  | n + 1, x2, x3 =>
  (vc_ S x0 12 (f_X12_of S M x0 x1 0)).bind fun v1 =>
  if x3 < v1 then
    (gR_ S x0 12 12).bind fun v2 =>
    (aI_ S M v2 x3).bind fun v3 =>
    if v3 < 100 then
      (gR_ S x0 12 12).bind fun v4 =>
      (aI_ S M v4 x3).bind fun v5 =>
      f_X12_notesOf_43 S (fun x2 x3 => f_X12_notesOf_9 S M x0 x1 n x2 x3) M x0 x1 x3 v5 1 x2
    else
      f_X12_notesOf_43 S (fun x2 x3 => f_X12_notesOf_9 S M x0 x1 n x2 x3) M x0 x1 x3 20 1 x2
  else
    some (M, x2)
def f_X12_notesOf (S : SH_s) (M : Mem_m) (x0 : Nat) (x1 : Int) : Option (Mem_m × Int) :=
  (vc_ S x0 12 (f_X12_cuts S M x0 x1)).bind fun M1 =>
  f_X12_notesOf_9 S M1 x0 x1 FU_ 0 0
def f_X12_told_35 (S : SH_s) (x0 : Nat) (x1 : Int) : Nat → Mem_m → Int → Int → Option (Mem_m × Int)
  | 0, _, _, _ => none
  | n + 1, M, x3, x4 =>
  (gR_ S x0 12 0).bind fun v1 =>
  (aI_ S M v1 1062).bind fun v2 =>
  if x4 < v2 then
    (vc_ S x0 12 (f_X12_counts S M x0 x4)).bind fun v3 =>
    if v3 = 0 then
      f_X12_told_35 S x0 x1 n M x3 (wr_i (x4 + 1))
    else
      (vc_ S x0 12 (f_X12_of S M x0 x4 9)).bind fun v4 =>
      if v4 = 0 then
        f_X12_told_35 S x0 x1 n M x3 (wr_i (x4 + 1))
      else
        (vc_ S x0 12 (f_X12_notesOf S M x0 x4)).bind fun z5 =>
        if an_i (sr_i z5.2 x1) 1 = 1 then
          (vc_ S x0 12 (f_X12_of S z5.1 x0 x4 9)).bind fun v6 =>
          f_X12_told_35 S x0 x1 n z5.1 (an_i x3 v6) (wr_i (x4 + 1))
        else
          f_X12_told_35 S x0 x1 n z5.1 x3 (wr_i (x4 + 1))
  else
    if x3 = (-1) then
      some (M, (-4))
    else
      some (M, x3)
def f_X12_told (S : SH_s) (M : Mem_m) (x0 : Nat) (x1 : Int) (x2 : Int) : Option (Mem_m × Int) :=
  (vc_ S x0 12 (f_X12_isNote S M x0 x1)).bind fun v1 =>
  if v1 = 0 then
    some (M, (-1))
  else
    (f_X12_isIn S M x2 0 1).bind fun v2 =>
    if v2 = 0 then
      some (M, (-1))
    else
      if x2 = 0 then
        (vc_ S x0 12 (f_X12_lengthOf S M x0 x1)).bind fun v3 =>
        some (M, v3)
      else
        f_X12_told_35 S x0 x1 FU_ M (-1) 0
def f_X12_listed_47 (S : SH_s) (x0 : Nat) : Nat → Mem_m → Int → Int → Option (Mem_m × Int)
  | 0, _, _, _ => none
  | n + 1, M, x1, x2 =>
  (gR_ S x0 12 0).bind fun v1 =>
  (aI_ S M v1 1062).bind fun v2 =>
  if x2 < v2 then
    (vc_ S x0 12 (f_X12_counts S M x0 x2)).bind fun v3 =>
    if v3 = 0 then
      f_X12_listed_47 S x0 n M x1 (wr_i (x2 + 1))
    else
      (vc_ S x0 12 (f_X12_cuts S M x0 x2)).bind fun M4 =>
      (gR_ S x0 12 11).bind fun v5 =>
      (aI_ S M4 v5 0).bind fun v6 =>
      f_X12_listed_47 S x0 n M4 (wr_i (x1 + v6)) (wr_i (x2 + 1))
  else
    some (M, x1)
def f_X12_listed_4 (S : SH_s) (M : Mem_m) (x0 : Nat) : Nat → Int → Int → Option (Mem_m × Int)
  | 0, _, _ => none
  | n + 1, x1, x2 =>
  (gR_ S x0 12 0).bind fun v1 =>
  (aI_ S M v1 1063).bind fun v2 =>
  if x2 < v2 then
    (vc_ S x0 12 (f_X12_noteOf S M x0 x2 6)).bind fun v3 =>
    if v3 = 1 then
      (vc_ S x0 12 (f_X12_lengthOf S M x0 x2)).bind fun v4 =>
      f_X12_listed_4 S M x0 n (wr_i (x1 + v4)) (wr_i (x2 + 1))
    else
      f_X12_listed_4 S M x0 n (wr_i (x1 + 0)) (wr_i (x2 + 1))
  else
    f_X12_listed_47 S x0 FU_ M x1 0
def f_X12_listed (S : SH_s) (M : Mem_m) (x0 : Nat) : Option (Mem_m × Int) :=
  f_X12_listed_4 S M x0 FU_ 0 0
def f_X12_leastList_85 (S : SH_s) (k_74 : Mem_m → Int → Int → Int → Option (Mem_m × Int)) (x0 : Nat) (x1 : Int) (x2 : Int) (x3 : Int) (x4 : Int) (x5 : Int) : Nat → Mem_m → Int → Option (Mem_m × Int)
  | 0, _, _ => none
  | n + 1, M, x6 =>
  if x6 < x2 then
    (gR_ S x0 12 0).bind fun v1 =>
    (sI_ S M v1 (wr_i ((wr_i (600 + (wr_i (7 * x6)))) + 6)) (an_i (sr_i x5 x6) 1)).bind fun M2 =>
    f_X12_leastList_85 S k_74 x0 x1 x2 x3 x4 x5 n M2 (wr_i (x6 + 1))
  else
    (vc_ S x0 12 (f_X12_listed S M x0)).bind fun z3 =>
    if z3.2 < x4 then
      k_74 z3.1 x5 z3.2 (wr_i (x5 + 1))
    else
      k_74 z3.1 x3 x4 (wr_i (x5 + 1))
def f_X12_leastList_153 (S : SH_s) (x0 : Nat) (x1 : Int) (x2 : Int) (x3 : Int) (x4 : Int) : Nat → Mem_m → Int → Option (Mem_m × Int)
  | 0, _, _ => none
  | n + 1, M, x5 =>
  if x5 < x2 then
    (gR_ S x0 12 0).bind fun v1 =>
    (gR_ S x0 12 13).bind fun v2 =>
    (aI_ S M v2 x5).bind fun v3 =>
    (sI_ S M v1 (wr_i ((wr_i (600 + (wr_i (7 * x5)))) + 6)) v3).bind fun M4 =>
    f_X12_leastList_153 S x0 x1 x2 x3 x4 n M4 (wr_i (x5 + 1))
  else
    if x1 = 0 then
      some (M, x4)
    else
      some (M, x3)
def f_X12_leastList_74 (S : SH_s) (x0 : Nat) (x1 : Int) (x2 : Int) : Nat → Mem_m → Int → Int → Int → Option (Mem_m × Int)
  | 0, _, _, _, _ => none
  | n + 1, M, x3, x4, x5 =>
  if x5 < sl_i 1 x2 then
    f_X12_leastList_85 S (fun M x3 x4 x5 => f_X12_leastList_74 S x0 x1 x2 n M x3 x4 x5) x0 x1 x2 x3 x4 x5 FU_ M 0
  else
    f_X12_leastList_153 S x0 x1 x2 x3 x4 FU_ M 0
def f_X12_leastList_41 (S : SH_s) (x0 : Nat) (x1 : Int) (x2 : Int) : Nat → Mem_m → Int → Option (Mem_m × Int)
  | 0, _, _ => none
  | n + 1, M, x3 =>
  if x3 < x2 then
    (gR_ S x0 12 13).bind fun v1 =>
    (vc_ S x0 12 (f_X12_noteOf S M x0 x3 6)).bind fun v2 =>
    (sI_ S M v1 x3 v2).bind fun M3 =>
    f_X12_leastList_41 S x0 x1 x2 n M3 (wr_i (x3 + 1))
  else
    f_X12_leastList_74 S x0 x1 x2 FU_ M 0 1000000000 0
def f_X12_leastList (S : SH_s) (M : Mem_m) (x0 : Nat) (x1 : Int) : Option (Mem_m × Int) :=
  (f_X12_isIn S M x1 0 1).bind fun v1 =>
  if v1 = 0 then
    some (M, (-1))
  else
    (gR_ S x0 12 0).bind fun v2 =>
    (aI_ S M v2 1063).bind fun v3 =>
    if v3 < 10 then
      (gR_ S x0 12 0).bind fun v4 =>
      (aI_ S M v4 1063).bind fun v5 =>
      f_X12_leastList_41 S x0 x1 v5 FU_ M 0
    else
      f_X12_leastList_41 S x0 x1 10 FU_ M 0
def f_X12_sign (S : SH_s) (M : Mem_m) (x0 : Nat) : Option Int :=
  (gI_ S M x0 12 14).bind fun v1 =>
  (gI_ S M x0 12 16).bind fun v2 =>
  if v1 < v2 then
    (gR_ S x0 12 5).bind fun v3 =>
    (gI_ S M x0 12 15).bind fun v4 =>
    (gI_ S M x0 12 14).bind fun v5 =>
    (aI_ S M v3 (wr_i (v4 + v5))).bind fun v6 =>
    some v6
  else
    some (-1000)
def f_X12_takes (S : SH_s) (M : Mem_m) (x0 : Nat) (x1 : Int) : Option (Mem_m × Int) :=
  (vc_ S x0 12 (f_X12_sign S M x0)).bind fun v1 =>
  if v1 = x1 then
    (gI_ S M x0 12 14).bind fun v2 =>
    (pI_ S M x0 12 14 (wr_i (v2 + 1))).bind fun M3 =>
    some (M3, 1)
  else
    some (M, 0)
def f_X12_readsNumber (S : SH_s) (M : Mem_m) (x0 : Nat) (x1 : Int) (x2 : Int) : Option (Mem_m × Int) :=
  (vc_ S x0 12 (f_X12_sign S M x0)).bind fun v1 =>
  (f_X12_isIn S M v1 48 (wr_i (48 + x2))).bind fun v2 =>
  if v2 = 0 then
    some (M, 0)
  else
    (gR_ S x0 12 17).bind fun v3 =>
    (vc_ S x0 12 (f_X12_sign S M x0)).bind fun v4 =>
    (sI_ S M v3 x1 (wr_i (v4 - 48))).bind fun M5 =>
    (gI_ S M5 x0 12 14).bind fun v6 =>
    (pI_ S M5 x0 12 14 (wr_i (v6 + 1))).bind fun M7 =>
    some (M7, 1)
def f_X12_readsWhat_80 (S : SH_s) (M : Mem_m) (s0 : Int) (s1 : Int) (s2 : Nat) : Option (Mem_m × Int) :=
  (vc_ S s2 12 (f_X12_readsNumber S M s2 s1 s0)).bind fun z1 =>
  if z1.2 = 0 ∨ z1.2 = 1 then some (z1.1, z1.2) else none
def f_X12_readsWhat_41 (S : SH_s) (M : Mem_m) (x0 : Nat) (x1 : Int) (s0 : Int) (s1 : Int) (s2 : Nat) : Option (Mem_m × Int) :=
  (sI_ S M s2 s1 s0).bind fun M1 =>
  (gR_ S x0 12 17).bind fun v2 =>
  (aI_ S M1 v2 (wr_i (2 * x1))).bind fun v3 =>
  if v3 = 2 then
    some (M1, 1)
  else
    (gR_ S x0 12 17).bind fun v4 =>
    (aI_ S M1 v4 (wr_i (2 * x1))).bind fun v5 =>
    if v5 = 1 then
      f_X12_readsWhat_80 S M1 3 (wr_i ((wr_i (2 * x1)) + 1)) x0
    else
      f_X12_readsWhat_80 S M1 9 (wr_i ((wr_i (2 * x1)) + 1)) x0
def f_X12_readsWhat_40 (S : SH_s) (M : Mem_m) (x0 : Nat) (x1 : Int) (s0 : Int) (s1 : Nat) : Option (Mem_m × Int) :=
  f_X12_readsWhat_41 S M x0 x1 0 s0 s1
def f_X12_readsWhat_24 (S : SH_s) (M : Mem_m) (x0 : Nat) (x1 : Int) (x3 : Int) (s0 : Int) (s1 : Nat) : Option (Mem_m × Int) :=
  if x3 = 0 then
    f_X12_readsWhat_40 S M x0 x1 s0 s1
  else
    (vc_ S x0 12 (f_X12_takes S M x0 x3)).bind fun z1 =>
    if z1.2 = 0 then
      f_X12_readsWhat_40 S z1.1 x0 x1 s0 s1
    else
      f_X12_readsWhat_41 S z1.1 x0 x1 2 s0 s1
def f_X12_readsWhat (S : SH_s) (M : Mem_m) (x0 : Nat) (x1 : Int) (x2 : Int) (x3 : Int) : Option (Mem_m × Int) :=
  (gR_ S x0 12 17).bind fun v1 =>
  if x2 = 0 then
    f_X12_readsWhat_24 S M x0 x1 x3 (wr_i (2 * x1)) v1
  else
    (vc_ S x0 12 (f_X12_takes S M x0 67)).bind fun z2 =>
    if z2.2 = 0 then
      f_X12_readsWhat_24 S z2.1 x0 x1 x3 (wr_i (2 * x1)) v1
    else
      f_X12_readsWhat_41 S z2.1 x0 x1 1 (wr_i (2 * x1)) v1
def f_X12_readsPlace (S : SH_s) (M : Mem_m) (x0 : Nat) (x1 : Int) : Option (Mem_m × Int) :=
  (vc_ S x0 12 (f_X12_takes S M x0 46)).bind fun z1 =>
  if z1.2 = 0 then
    (vc_ S x0 12 (f_X12_readsWhat S z1.1 x0 x1 1 35)).bind fun z2 =>
    if z2.2 = 0 ∨ z2.2 = 1 then some (z2.1, z2.2) else none
  else
    (gR_ S x0 12 17).bind fun v3 =>
    (sI_ S z1.1 v3 (wr_i (2 * x1)) 3).bind fun M4 =>
    some (M4, 1)
def f_X12_faultOf_92 (S : SH_s) (M : Mem_m) (x0 : Nat) (s0 : Int) : Option (Mem_m × Int) :=
  if s0 = 0 then
    (gI_ S M x0 12 14).bind fun v1 =>
    some (M, v1)
  else
    (gI_ S M x0 12 14).bind fun v2 =>
    (gI_ S M x0 12 16).bind fun v3 =>
    if v2 = v3 then
      some (M, (-4))
    else
      (gI_ S M x0 12 14).bind fun v4 =>
      some (M, v4)
def f_X12_faultOf_91 (S : SH_s) (M : Mem_m) (x0 : Nat) : Option (Mem_m × Int) :=
  f_X12_faultOf_92 S M x0 0
def f_X12_faultOf (S : SH_s) (M : Mem_m) (x0 : Nat) (x1 : Int) : Option (Mem_m × Int) :=
  (pI_ S M x0 12 15 (wr_i (80 * x1))).bind fun M1 =>
  (gR_ S x0 12 4).bind fun v2 =>
  (aI_ S M1 v2 x1).bind fun v3 =>
  (pI_ S M1 x0 12 16 v3).bind fun M4 =>
  (pI_ S M4 x0 12 14 0).bind fun M5 =>
  (vc_ S x0 12 (f_X12_readsWhat S M5 x0 0 1 0)).bind fun z6 =>
  if z6.2 = 0 then
    f_X12_faultOf_91 S z6.1 x0
  else
    (vc_ S x0 12 (f_X12_takes S z6.1 x0 62)).bind fun z7 =>
    if z7.2 = 0 then
      f_X12_faultOf_91 S z7.1 x0
    else
      (vc_ S x0 12 (f_X12_readsWhat S z7.1 x0 1 0 45)).bind fun z8 =>
      if z8.2 = 0 then
        f_X12_faultOf_91 S z8.1 x0
      else
        (vc_ S x0 12 (f_X12_takes S z8.1 x0 47)).bind fun z9 =>
        if z9.2 = 0 then
          f_X12_faultOf_91 S z9.1 x0
        else
          (vc_ S x0 12 (f_X12_readsPlace S z9.1 x0 2)).bind fun z10 =>
          if z10.2 = 0 then
            f_X12_faultOf_91 S z10.1 x0
          else
            (vc_ S x0 12 (f_X12_takes S z10.1 x0 95)).bind fun z11 =>
            if z11.2 = 0 then
              f_X12_faultOf_91 S z11.1 x0
            else
              (vc_ S x0 12 (f_X12_readsPlace S z11.1 x0 3)).bind fun z12 =>
              if z12.2 = 0 then
                f_X12_faultOf_91 S z12.1 x0
              else
                f_X12_faultOf_92 S z12.1 x0 1
def f_X12_fault (S : SH_s) (M : Mem_m) (x0 : Nat) (x1 : Int) : Option (Mem_m × Int) :=
  (vc_ S x0 12 (f_X12_wrongRow S M x0 x1 0)).bind fun v1 =>
  if v1 = 0 then
    (vc_ S x0 12 (f_X12_faultOf S M x0 x1)).bind fun z2 =>
    some (z2.1, z2.2)
  else
    some (M, v1)
def f_X12_rule_58 (S : SH_s) (x0 : Nat) : Nat → Mem_m → Int → Option (Mem_m × Int)
  | 0, _, _ => none
  | n + 1, M, x4 =>
  if x4 < 8 then
    (gR_ S x0 12 0).bind fun v1 =>
    (gR_ S x0 12 0).bind fun v2 =>
    (aI_ S M v2 1064).bind fun v3 =>
    (gR_ S x0 12 17).bind fun v4 =>
    (aI_ S M v4 x4).bind fun v5 =>
    (sI_ S M v1 (wr_i ((wr_i (712 + (wr_i (8 * v3)))) + x4)) v5).bind fun M6 =>
    f_X12_rule_58 S x0 n M6 (wr_i (x4 + 1))
  else
    (gR_ S x0 12 0).bind fun v7 =>
    (aI_ S M v7 1064).bind fun v8 =>
    (sI_ S M v7 1064 (wr_i (v8 + 1))).bind fun M9 =>
    (gR_ S x0 12 0).bind fun v10 =>
    (aI_ S M9 v10 1064).bind fun v11 =>
    some (M9, wr_i (v11 - 1))
def f_X12_rule (S : SH_s) (M : Mem_m) (x0 : Nat) (x1 : Int) : Option (Mem_m × Int) :=
  (f_X12_isShelf S M x1).bind fun v1 =>
  if v1 = 0 then
    some (M, (-1))
  else
    (gR_ S x0 12 0).bind fun v2 =>
    (aI_ S M v2 1064).bind fun v3 =>
    if v3 = 8 then
      some (M, (-2))
    else
      (vc_ S x0 12 (f_X12_wrongRow S M x0 x1 0)).bind fun v4 =>
      if v4 = 0 then
        (vc_ S x0 12 (f_X12_faultOf S M x0 x1)).bind fun z5 =>
        if z5.2 = (-4) then
          f_X12_rule_58 S x0 FU_ z5.1 0
        else
          some (z5.1, wr_i ((-100) - z5.2))
      else
        some (M, v4)
def f_X12_fitsPlace (S : SH_s) (M : Mem_m) (x0 : Nat) (x1 : Int) (x2 : Int) : Option Int :=
  (gR_ S x0 12 0).bind fun v1 =>
  (aI_ S M v1 x1).bind fun v2 =>
  if v2 = 3 then
    some 1
  else
    if v2 = 2 then
      if x2 < 0 then
        some 1
      else
        some 0
    else
      if x2 < 0 then
        some 0
      else
        if v2 = 0 then
          (gR_ S x0 12 0).bind fun v3 =>
          (aI_ S M v3 (wr_i (x1 + 1))).bind fun v4 =>
          if v4 = x2 then
            some 1
          else
            some 0
        else
          (gR_ S x0 12 0).bind fun v5 =>
          (aI_ S M v5 (wr_i (1036 + x2))).bind fun v6 =>
          (gR_ S x0 12 0).bind fun v7 =>
          (aI_ S M v7 (wr_i (x1 + 1))).bind fun v8 =>
          if v6 = v8 then
            some 1
          else
            some 0
def f_X12_hears_204 (S : SH_s) (k_2 : Mem_m → Int → Option Mem_m) (k_65 : Mem_m → Int → Option Mem_m) (M : Mem_m) (x0 : Nat) (x1 : Int) (x2 : Int) (x3 : Int) (x4 : Int) (s0 : Int) (s1 : Int) (s2 : Nat) : Option Mem_m :=
  (sI_ S M s2 s1 s0).bind fun M1 =>
  (gI_ S M1 x0 12 20).bind fun v2 =>
  (pI_ S M1 x0 12 20 (wr_i (v2 + 1))).bind fun M3 =>
  k_65 M3 (wr_i (x4 + 1))
def f_X12_hears_173 (S : SH_s) (k_2 : Mem_m → Int → Option Mem_m) (k_65 : Mem_m → Int → Option Mem_m) (M : Mem_m) (x0 : Nat) (x1 : Int) (x2 : Int) (x3 : Int) (x4 : Int) (x5 : Int) : Option Mem_m :=
  (gR_ S x0 12 18).bind fun v1 =>
  (gI_ S M x0 12 20).bind fun v2 =>
  if x5 = 0 then
    (gR_ S x0 12 19).bind fun v3 =>
    (aI_ S M v3 x4).bind fun v4 =>
    f_X12_hears_204 S k_2 k_65 M x0 x1 x2 x3 x4 v4 v2 v1
  else
    (gR_ S x0 12 0).bind fun v5 =>
    (aI_ S M v5 (wr_i (x2 + 3))).bind fun v6 =>
    f_X12_hears_204 S k_2 k_65 M x0 x1 x2 x3 x4 v6 v2 v1
def f_X12_hears_151 (S : SH_s) (k_2 : Mem_m → Int → Option Mem_m) (k_65 : Mem_m → Int → Option Mem_m) (M : Mem_m) (x0 : Nat) (x1 : Int) (x2 : Int) (x3 : Int) (x4 : Int) (s0 : Int) : Option Mem_m :=
  if s0 = 0 then
    f_X12_hears_173 S k_2 k_65 M x0 x1 x2 x3 x4 s0
  else
    (gR_ S x0 12 0).bind fun v1 =>
    (aI_ S M v1 (wr_i (x2 + 2))).bind fun v2 =>
    if v2 = 2 then
      k_65 M (wr_i (x4 + 1))
    else
      f_X12_hears_173 S k_2 k_65 M x0 x1 x2 x3 x4 s0
def f_X12_hears_150 (S : SH_s) (k_2 : Mem_m → Int → Option Mem_m) (k_65 : Mem_m → Int → Option Mem_m) (M : Mem_m) (x0 : Nat) (x1 : Int) (x2 : Int) (x3 : Int) (x4 : Int) : Option Mem_m :=
  f_X12_hears_151 S k_2 k_65 M x0 x1 x2 x3 x4 0
def f_X12_hears_140 (S : SH_s) (k_2 : Mem_m → Int → Option Mem_m) (k_65 : Mem_m → Int → Option Mem_m) (M : Mem_m) (x0 : Nat) (x1 : Int) (x2 : Int) (x3 : Int) (x4 : Int) (s0 : Int) (s1 : Int) (s2 : Nat) : Option Mem_m :=
  (vc_ S s2 12 (f_X12_fitsPlace S M s2 s1 s0)).bind fun v1 =>
  if v1 = 0 then
    f_X12_hears_150 S k_2 k_65 M x0 x1 x2 x3 x4
  else
    f_X12_hears_151 S k_2 k_65 M x0 x1 x2 x3 x4 1
def f_X12_hears_108 (S : SH_s) (k_2 : Mem_m → Int → Option Mem_m) (k_65 : Mem_m → Int → Option Mem_m) (M : Mem_m) (x0 : Nat) (x1 : Int) (x2 : Int) (x3 : Int) (x4 : Int) (s0 : Int) (s1 : Int) (s2 : Nat) : Option Mem_m :=
  (vc_ S s2 12 (f_X12_fitsPlace S M s2 s1 s0)).bind fun v1 =>
  if v1 = 0 then
    f_X12_hears_150 S k_2 k_65 M x0 x1 x2 x3 x4
  else
    if wr_i (x4 + 1) < x3 then
      (gR_ S x0 12 19).bind fun v2 =>
      (aI_ S M v2 (wr_i (x4 + 1))).bind fun v3 =>
      f_X12_hears_140 S k_2 k_65 M x0 x1 x2 x3 x4 v3 (wr_i (x2 + 6)) x0
    else
      f_X12_hears_140 S k_2 k_65 M x0 x1 x2 x3 x4 (-1) (wr_i (x2 + 6)) x0
def f_X12_hears_65 (S : SH_s) (k_2 : Mem_m → Int → Option Mem_m) (x0 : Nat) (x1 : Int) (x2 : Int) (x3 : Int) : Nat → Mem_m → Int → Option Mem_m
  | 0, _, _ => none
  | n + 1, M, x4 =>
  if x4 < x3 then
    (gR_ S x0 12 19).bind fun v1 =>
    (aI_ S M v1 x4).bind fun v2 =>
    (vc_ S x0 12 (f_X12_fitsPlace S M x0 x2 v2)).bind fun v3 =>
    if v3 = 0 then
      f_X12_hears_150 S k_2 (fun M x4 => f_X12_hears_65 S k_2 x0 x1 x2 x3 n M x4) M x0 x1 x2 x3 x4
    else
      if x4 ≤ 0 then
        f_X12_hears_108 S k_2 (fun M x4 => f_X12_hears_65 S k_2 x0 x1 x2 x3 n M x4) M x0 x1 x2 x3 x4 (-1) (wr_i (x2 + 4)) x0
      else
        (gR_ S x0 12 19).bind fun v4 =>
        (aI_ S M v4 (wr_i (x4 - 1))).bind fun v5 =>
        f_X12_hears_108 S k_2 (fun M x4 => f_X12_hears_65 S k_2 x0 x1 x2 x3 n M x4) M x0 x1 x2 x3 x4 v5 (wr_i (x2 + 4)) x0
  else
    k_2 M (wr_i (x1 + 1))
def f_X12_hears_31 (S : SH_s) (k_2 : Mem_m → Int → Option Mem_m) (x0 : Nat) (x1 : Int) (x2 : Int) (x3 : Int) : Nat → Mem_m → Int → Option Mem_m
  | 0, _, _ => none
  | n + 1, M, x4 =>
  if x4 < x3 then
    (gR_ S x0 12 19).bind fun v1 =>
    (gR_ S x0 12 18).bind fun v2 =>
    (aI_ S M v2 x4).bind fun v3 =>
    (sI_ S M v1 x4 v3).bind fun M4 =>
    f_X12_hears_31 S k_2 x0 x1 x2 x3 n M4 (wr_i (x4 + 1))
  else
    (pI_ S M x0 12 20 0).bind fun M5 =>
    f_X12_hears_65 S k_2 x0 x1 x2 x3 FU_ M5 0
def f_X12_hears_2 (S : SH_s) (x0 : Nat) : Nat → Mem_m → Int → Option Mem_m
  | 0, _, _ => none
  | n + 1, M, x1 =>
  (gR_ S x0 12 0).bind fun v1 =>
  (aI_ S M v1 1064).bind fun v2 =>
  if x1 < v2 then
    (gI_ S M x0 12 20).bind fun v3 =>
    f_X12_hears_31 S (fun M x1 => f_X12_hears_2 S x0 n M x1) x0 x1 (wr_i (712 + (wr_i (8 * x1)))) v3 FU_ M 0
  else
    some M
def f_X12_hears (S : SH_s) (M : Mem_m) (x0 : Nat) : Option Mem_m :=
  f_X12_hears_2 S x0 FU_ M 0
def f_X12_heard_109 (S : SH_s) (x0 : Nat) (x2 : Int) : Nat → Mem_m → Int → Option (Mem_m × Int)
  | 0, _, _ => none
  | n + 1, M, x4 =>
  if x4 < 80 then
    (gR_ S x0 12 5).bind fun v1 =>
    (gI_ S M x0 12 20).bind fun v2 =>
    if x4 < v2 then
      (gR_ S x0 12 18).bind fun v3 =>
      (aI_ S M v3 x4).bind fun v4 =>
      (sI_ S M v1 (wr_i ((wr_i (80 * x2)) + x4)) v4).bind fun M5 =>
      f_X12_heard_109 S x0 x2 n M5 (wr_i (x4 + 1))
    else
      (sI_ S M v1 (wr_i ((wr_i (80 * x2)) + x4)) 0).bind fun M6 =>
      f_X12_heard_109 S x0 x2 n M6 (wr_i (x4 + 1))
  else
    (gI_ S M x0 12 20).bind fun v7 =>
    some (M, v7)
def f_X12_heard_44 (S : SH_s) (x0 : Nat) (x1 : Int) (x2 : Int) : Nat → Mem_m → Int → Option (Mem_m × Int)
  | 0, _, _ => none
  | n + 1, M, x4 =>
  (gI_ S M x0 12 20).bind fun v1 =>
  if x4 < v1 then
    (gR_ S x0 12 18).bind fun v2 =>
    (gR_ S x0 12 5).bind fun v3 =>
    (aI_ S M v3 (wr_i ((wr_i (80 * x1)) + x4))).bind fun v4 =>
    (sI_ S M v2 x4 v4).bind fun M5 =>
    f_X12_heard_44 S x0 x1 x2 n M5 (wr_i (x4 + 1))
  else
    (vc_ S x0 12 (f_X12_hears S M x0)).bind fun M6 =>
    (gR_ S x0 12 2).bind fun v7 =>
    (sI_ S M6 v7 x2 2).bind fun M8 =>
    (gR_ S x0 12 3).bind fun v9 =>
    (sI_ S M8 v9 x2 0).bind fun M10 =>
    (gR_ S x0 12 4).bind fun v11 =>
    (gI_ S M10 x0 12 20).bind fun v12 =>
    (sI_ S M10 v11 x2 v12).bind fun M13 =>
    f_X12_heard_109 S x0 x2 FU_ M13 0
def f_X12_heard (S : SH_s) (M : Mem_m) (x0 : Nat) (x1 : Int) (x2 : Int) : Option (Mem_m × Int) :=
  (f_X12_isShelf S M x1).bind fun v1 =>
  if v1 = 0 then
    some (M, (-1))
  else
    (f_X12_isShelf S M x2).bind fun v2 =>
    if v2 = 0 then
      some (M, (-1))
    else
      (vc_ S x0 12 (f_X12_wrongSounds S M x0 x1 0 80)).bind fun v3 =>
      if v3 = 0 then
        (gR_ S x0 12 4).bind fun v4 =>
        (aI_ S M v4 x1).bind fun v5 =>
        (pI_ S M x0 12 20 v5).bind fun M6 =>
        f_X12_heard_44 S x0 x1 x2 FU_ M6 0
      else
        some (M, v3)
def f_X12_adds_2 (S : SH_s) (x0 : Nat) (x1 : Int) : Nat → Mem_m → Int → Option Mem_m
  | 0, _, _ => none
  | n + 1, M, x2 =>
  (vc_ S x0 12 (f_X12_wide S M x0 x1)).bind fun v1 =>
  if x2 < v1 then
    (gR_ S x0 12 18).bind fun v2 =>
    (gI_ S M x0 12 20).bind fun v3 =>
    (vc_ S x0 12 (f_X12_soundOf S M x0 x1 x2)).bind fun v4 =>
    (sI_ S M v2 v3 v4).bind fun M5 =>
    (gI_ S M5 x0 12 20).bind fun v6 =>
    (pI_ S M5 x0 12 20 (wr_i (v6 + 1))).bind fun M7 =>
    f_X12_adds_2 S x0 x1 n M7 (wr_i (x2 + 1))
  else
    some M
def f_X12_adds (S : SH_s) (M : Mem_m) (x0 : Nat) (x1 : Int) : Option Mem_m :=
  f_X12_adds_2 S x0 x1 FU_ M 0
def f_X12_isHeard_111 (S : SH_s) (M : Mem_m) (x0 : Nat) (x1 : Int) : Nat → Int → Option (Mem_m × Int)
  | 0, _ => none
  | n + 1, x5 =>
  (gI_ S M x0 12 20).bind fun v1 =>
  if x5 < v1 then
    (gR_ S x0 12 18).bind fun v2 =>
    (aI_ S M v2 x5).bind fun v3 =>
    (vc_ S x0 12 (f_X12_of S M x0 x1 (wr_i (1 + x5)))).bind fun v4 =>
    if v3 = v4 then
      f_X12_isHeard_111 S M x0 x1 n (wr_i (x5 + 1))
    else
      some (M, 0)
  else
    some (M, 1)
def f_X12_isHeard_33 (S : SH_s) (x0 : Nat) (x1 : Int) (x2 : Int) (x3 : Int) : Nat → Mem_m → Int → Int → Option (Mem_m × Int)
  | 0, _, _, _ => none
  | n + 1, M, x4, x5 =>
  if x5 < x2 then
    if x4 = 0 then none else
    if 16 = 0 then none else
    if 16 = 0 then none else
    (vc_ S x0 12 (f_X12_isNote S M x0 (rm_i (dv_i x3 x4) 16))).bind fun v1 =>
    if v1 = 0 then
      some (M, 0)
    else
      (vc_ S x0 12 (f_X12_noteOf S M x0 (rm_i (dv_i x3 x4) 16) 6)).bind fun v2 =>
      if v2 = 0 then
        some (M, 0)
      else
        (vc_ S x0 12 (f_X12_adds S M x0 (rm_i (dv_i x3 x4) 16))).bind fun M3 =>
        f_X12_isHeard_33 S x0 x1 x2 x3 n M3 (dv_i x4 16) (wr_i (x5 + 1))
  else
    (vc_ S x0 12 (f_X12_hears S M x0)).bind fun M4 =>
    (gI_ S M4 x0 12 20).bind fun v5 =>
    (vc_ S x0 12 (f_X12_of S M4 x0 x1 0)).bind fun v6 =>
    if v5 = v6 then
      f_X12_isHeard_111 S M4 x0 x1 FU_ 0
    else
      some (M4, 0)
def f_X12_isHeard_11 (S : SH_s) (M : Mem_m) (x0 : Nat) (x1 : Int) (x2 : Int) (x3 : Int) : Nat → Int → Int → Option (Mem_m × Int)
  | 0, _, _ => none
  | n + 1, x4, x5 =>
  if x5 < x2 then
    f_X12_isHeard_11 S M x0 x1 x2 x3 n (wr_i (x4 * 16)) (wr_i (x5 + 1))
  else
    f_X12_isHeard_33 S x0 x1 x2 x3 FU_ M x4 0
def f_X12_isHeard (S : SH_s) (M : Mem_m) (x0 : Nat) (x1 : Int) (x2 : Int) (x3 : Int) : Option (Mem_m × Int) :=
  (pI_ S M x0 12 20 0).bind fun M1 =>
  f_X12_isHeard_11 S M1 x0 x1 x2 x3 FU_ 1 1
def f_X12_findDeep_25 (S : SH_s) (k_7 : Mem_m → Int → Option Mem_m) (x0 : Nat) (x1 : Int) (x2 : Int) : Nat → Mem_m → Option Mem_m
  | 0, _ => none
  | n + 1, M =>
  (gI_ S M x0 12 22).bind fun v1 =>
  if v1 < x2 then
    (gI_ S M x0 12 21).bind fun v2 =>
    (gI_ S M x0 12 22).bind fun v3 =>
    (vc_ S x0 12 (f_X12_isHeard S M x0 x1 v2 v3)).bind fun z4 =>
    if z4.2 = 0 then
      (gI_ S z4.1 x0 12 22).bind fun v5 =>
      (pI_ S z4.1 x0 12 22 (wr_i (v5 + 1))).bind fun M6 =>
      f_X12_findDeep_25 S k_7 x0 x1 x2 n M6
    else
      some z4.1
  else
    (gI_ S M x0 12 21).bind fun v7 =>
    (pI_ S M x0 12 21 (wr_i (v7 + 1))).bind fun M8 =>
    k_7 M8 x2
def f_X12_findDeep_7 (S : SH_s) (x0 : Nat) (x1 : Int) : Nat → Mem_m → Int → Option Mem_m
  | 0, _, _ => none
  | n + 1, M, x2 =>
  (gI_ S M x0 12 21).bind fun v1 =>
  if v1 < 4 then
    (pI_ S M x0 12 22 0).bind fun M2 =>
    f_X12_findDeep_25 S (fun M x2 => f_X12_findDeep_7 S x0 x1 n M x2) x0 x1 (wr_i (x2 * 16)) FU_ M2
  else
    (pI_ S M x0 12 21 0).bind fun M3 =>
    some M3
def f_X12_findDeep (S : SH_s) (M : Mem_m) (x0 : Nat) (x1 : Int) : Option Mem_m :=
  (pI_ S M x0 12 21 1).bind fun M1 =>
  f_X12_findDeep_7 S x0 x1 FU_ M1 1
def f_X12_deep_57 (S : SH_s) (M : Mem_m) (x0 : Nat) : Nat → Int → Int → Option (Mem_m × Int)
  | 0, _, _ => none
  | n + 1, x3, x4 =>
  (gI_ S M x0 12 21).bind fun v1 =>
  if x4 < v1 then
    if 16 = 0 then none else
    f_X12_deep_57 S M x0 n (dv_i x3 16) (wr_i (x4 + 1))
  else
    if 16 = 0 then none else
    some (M, rm_i x3 16)
def f_X12_deep (S : SH_s) (M : Mem_m) (x0 : Nat) (x1 : Int) (x2 : Int) : Option (Mem_m × Int) :=
  (vc_ S x0 12 (f_X12_isCard S M x0 x1)).bind fun v1 =>
  if v1 = 0 then
    some (M, (-1))
  else
    if x2 < (-1) then
      some (M, (-1))
    else
      (vc_ S x0 12 (f_X12_findDeep S M x0 x1)).bind fun M2 =>
      (gI_ S M2 x0 12 21).bind fun v3 =>
      if v3 = 0 then
        some (M2, (-4))
      else
        (gI_ S M2 x0 12 21).bind fun v4 =>
        if x2 < v4 then
          if x2 < 0 then
            (gI_ S M2 x0 12 21).bind fun v5 =>
            some (M2, v5)
          else
            (gI_ S M2 x0 12 22).bind fun v6 =>
            f_X12_deep_57 S M2 x0 FU_ v6 (wr_i (x2 + 1))
        else
          some (M2, (-4))
def f_X12_wrongParts_73 (S : SH_s) (k_35 : Int → Option Int) (M : Mem_m) (x0 : Nat) (x1 : Int) (x3 : Int) : Nat → Int → Option Int
  | 0, _ => none
  | n + 1, x4 =>
  if x4 < x3 then
    (gR_ S x0 12 5).bind fun v1 =>
    (aI_ S M v1 (wr_i ((wr_i (80 * x1)) + x4))).bind fun v2 =>
    (gR_ S x0 12 5).bind fun v3 =>
    (aI_ S M v3 (wr_i ((wr_i (80 * x1)) + x3))).bind fun v4 =>
    if v2 = v4 then
      some (-13)
    else
      f_X12_wrongParts_73 S k_35 M x0 x1 x3 n (wr_i (x4 + 1))
  else
    k_35 (wr_i (x3 + 1))
def f_X12_wrongParts_35 (S : SH_s) (M : Mem_m) (x0 : Nat) (x1 : Int) : Nat → Int → Option Int
  | 0, _ => none
  | n + 1, x3 =>
  (gR_ S x0 12 4).bind fun v1 =>
  (aI_ S M v1 x1).bind fun v2 =>
  if x3 < v2 then
    (gR_ S x0 12 5).bind fun v3 =>
    (aI_ S M v3 (wr_i ((wr_i (80 * x1)) + x3))).bind fun v4 =>
    (f_X12_isIn S M v4 0 3).bind fun v5 =>
    if v5 = 0 then
      some (-13)
    else
      f_X12_wrongParts_73 S (fun x3 => f_X12_wrongParts_35 S M x0 x1 n x3) M x0 x1 x3 FU_ 0
  else
    some 0
def f_X12_wrongParts (S : SH_s) (M : Mem_m) (x0 : Nat) (x1 : Int) : Option Int :=
  (vc_ S x0 12 (f_X12_wrongRow S M x0 x1 0)).bind fun v1 =>
  if v1 = 0 then
    (gR_ S x0 12 4).bind fun v2 =>
    (aI_ S M v2 x1).bind fun v3 =>
    (f_X12_isIn S M v3 1 4).bind fun v4 =>
    if v4 = 0 then
      some (-13)
    else
      f_X12_wrongParts_35 S M x0 x1 FU_ 0
  else
    some v1
def f_X12_partsOf_11 (S : SH_s) (M : Mem_m) (x0 : Nat) (x1 : Int) : Nat → Int → Int → Option Int
  | 0, _, _ => none
  | n + 1, x2, x3 =>
  if x3 < 0 then
    some x2
  else
    (gR_ S x0 12 5).bind fun v1 =>
    (aI_ S M v1 (wr_i ((wr_i (80 * x1)) + x3))).bind fun v2 =>
    f_X12_partsOf_11 S M x0 x1 n (wr_i ((wr_i ((wr_i (5 * x2)) + v2)) + 1)) (wr_i (x3 + (-1)))
def f_X12_partsOf (S : SH_s) (M : Mem_m) (x0 : Nat) (x1 : Int) : Option Int :=
  (gR_ S x0 12 4).bind fun v1 =>
  (aI_ S M v1 x1).bind fun v2 =>
  f_X12_partsOf_11 S M x0 x1 FU_ 0 (wr_i (v2 - 1))
def f_X12_placeIn_65 (S : SH_s) (k_12 : Int → Int → Int → Int → Option Int) (k_51 : Int → Int → Option Int) (M : Mem_m) (x1 : Int) (x2 : Int) (x3 : Int) (x4 : Int) (x5 : Int) (x6 : Int) (x7 : Int) : Option Int :=
  k_51 (wr_i (x6 - (an_i (sr_i x3 x7) 1))) (wr_i (x7 + 1))
def f_X12_placeIn_51 (S : SH_s) (k_12 : Int → Int → Int → Int → Option Int) (M : Mem_m) (x1 : Int) (x2 : Int) (x3 : Int) (x4 : Int) (x5 : Int) : Nat → Int → Int → Option Int
  | 0, _, _ => none
  | n + 1, x6, x7 =>
  if an_i (sr_i x3 x7) 1 = 0 then
    f_X12_placeIn_65 S k_12 (fun x6 x7 => f_X12_placeIn_51 S k_12 M x1 x2 x3 x4 x5 n x6 x7) M x1 x2 x3 x4 x5 x6 x7
  else
    if x6 ≤ 0 then
      if x7 = x1 then
        some x5
      else
        k_12 x2 (an_i x3 (xo_i (sl_i 1 x7) (-1))) x4 (wr_i (x5 + 1))
    else
      f_X12_placeIn_65 S k_12 (fun x6 x7 => f_X12_placeIn_51 S k_12 M x1 x2 x3 x4 x5 n x6 x7) M x1 x2 x3 x4 x5 x6 x7
def f_X12_placeIn_12 (S : SH_s) (M : Mem_m) (x1 : Int) : Nat → Int → Int → Int → Int → Option Int
  | 0, _, _, _, _ => none
  | n + 1, x2, x3, x4, x5 =>
  if x5 < 4 then
    if x4 = 0 then none else
    if x4 = 0 then none else
    if x5 < 2 then
      if wr_i (3 - x5) = 0 then none else
      f_X12_placeIn_51 S (fun x2 x3 x4 x5 => f_X12_placeIn_12 S M x1 n x2 x3 x4 x5) M x1 (rm_i x2 x4) x3 (dv_i x4 (wr_i (3 - x5))) x5 FU_ (dv_i x2 x4) 0
    else
      f_X12_placeIn_51 S (fun x2 x3 x4 x5 => f_X12_placeIn_12 S M x1 n x2 x3 x4 x5) M x1 (rm_i x2 x4) x3 1 x5 FU_ (dv_i x2 x4) 0
  else
    some (-1)
def f_X12_placeIn (S : SH_s) (M : Mem_m) (x0 : Int) (x1 : Int) : Option Int :=
  f_X12_placeIn_12 S M x1 FU_ x0 15 6 0
def f_X12_fitsOrder_4 (S : SH_s) (M : Mem_m) (x1 : Int) : Nat → Int → Int → Option Int
  | 0, _, _ => none
  | n + 1, x2, x3 =>
  if x3 ≤ 0 then
    some 1
  else
    if 5 = 0 then none else
    (f_X12_placeIn S M x1 (wr_i ((rm_i x3 5) - 1))).bind fun v1 =>
    if v1 < x2 then
      some 0
    else
      if 5 = 0 then none else
      f_X12_fitsOrder_4 S M x1 n v1 (dv_i x3 5)
def f_X12_fitsOrder (S : SH_s) (M : Mem_m) (x0 : Int) (x1 : Int) : Option Int :=
  f_X12_fitsOrder_4 S M x1 FU_ (-1) x0
def f_X12_said_133 (S : SH_s) (M : Mem_m) (x0 : Nat) (s0 : Int) (s1 : Int) (s2 : Nat) : Option (Mem_m × Int) :=
  (sI_ S M s2 s1 s0).bind fun M1 =>
  (gR_ S x0 12 0).bind fun v2 =>
  (aI_ S M1 v2 1065).bind fun v3 =>
  (sI_ S M1 v2 1065 (wr_i (v3 + 1))).bind fun M4 =>
  (gR_ S x0 12 0).bind fun v5 =>
  (aI_ S M4 v5 1065).bind fun v6 =>
  some (M4, wr_i (v6 - 1))
def f_X12_said (S : SH_s) (M : Mem_m) (x0 : Nat) (x1 : Int) (x2 : Int) (x3 : Int) (x4 : Int) : Option (Mem_m × Int) :=
  (f_X12_isShelf S M x1).bind fun v1 =>
  if v1 = 0 then
    some (M, (-1))
  else
    (f_X12_isIn S M x2 0 7).bind fun v2 =>
    if v2 = 0 then
      some (M, (-1))
    else
      (f_X12_isIn S M x3 0 999).bind fun v3 =>
      if v3 = 0 then
        some (M, (-1))
      else
        (gR_ S x0 12 0).bind fun v4 =>
        (aI_ S M v4 1065).bind fun v5 =>
        if v5 = 20 then
          some (M, (-2))
        else
          (vc_ S x0 12 (f_X12_wrongParts S M x0 x1)).bind fun v6 =>
          if v6 = 0 then
            (gR_ S x0 12 0).bind fun v7 =>
            (aI_ S M v7 1065).bind fun v8 =>
            (gR_ S x0 12 0).bind fun v9 =>
            (vc_ S x0 12 (f_X12_partsOf S M x0 x1)).bind fun v10 =>
            (sI_ S M v9 (wr_i (776 + (wr_i (8 * v8)))) v10).bind fun M11 =>
            (gR_ S x0 12 0).bind fun v12 =>
            (sI_ S M11 v12 (wr_i ((wr_i (776 + (wr_i (8 * v8)))) + 5)) x2).bind fun M13 =>
            (gR_ S x0 12 0).bind fun v14 =>
            (sI_ S M13 v14 (wr_i ((wr_i (776 + (wr_i (8 * v8)))) + 6)) x3).bind fun M15 =>
            (gR_ S x0 12 0).bind fun v16 =>
            if x4 = 0 then
              f_X12_said_133 S M15 x0 0 (wr_i ((wr_i (776 + (wr_i (8 * v8)))) + 7)) v16
            else
              f_X12_said_133 S M15 x0 1 (wr_i ((wr_i (776 + (wr_i (8 * v8)))) + 7)) v16
          else
            some (M, v6)
def f_X12_isOf (S : SH_s) (M : Mem_m) (x0 : Nat) (x1 : Int) (x2 : Int) : Option Int :=
  if x2 < 0 then
    some 1
  else
    (gR_ S x0 12 0).bind fun v1 =>
    (gR_ S x0 12 0).bind fun v2 =>
    (aI_ S M v2 (wr_i ((wr_i (776 + (wr_i (8 * x1)))) + 5))).bind fun v3 =>
    (aI_ S M v1 (wr_i (1046 + v3))).bind fun v4 =>
    if v4 = x2 then
      some 1
    else
      some 0
def f_X12_fitsSaid_42 (S : SH_s) (M : Mem_m) (s0 : Int) (s1 : Int) : Option Int :=
  if s1 = s0 then
    some 1
  else
    some 0
def f_X12_fitsSaid (S : SH_s) (M : Mem_m) (x0 : Nat) (x1 : Int) (x2 : Int) : Option Int :=
  (gR_ S x0 12 0).bind fun v1 =>
  (aI_ S M v1 (wr_i (776 + (wr_i (8 * x1))))).bind fun v2 =>
  (f_X12_fitsOrder S M v2 x2).bind fun v3 =>
  (gR_ S x0 12 0).bind fun v4 =>
  (aI_ S M v4 (wr_i ((wr_i (776 + (wr_i (8 * x1)))) + 7))).bind fun v5 =>
  if v5 = 1 then
    f_X12_fitsSaid_42 S M 1 v3
  else
    f_X12_fitsSaid_42 S M 0 v3
def f_X12_findSet_20 (S : SH_s) (k_4 : Mem_m → Int → Int → Option (Mem_m × Int)) (x0 : Nat) (x1 : Int) (x2 : Int) (x3 : Int) : Nat → Mem_m → Int → Option (Mem_m × Int)
  | 0, _, _ => none
  | n + 1, M, x4 =>
  (gR_ S x0 12 0).bind fun v1 =>
  (aI_ S M v1 1065).bind fun v2 =>
  if x4 < v2 then
    (gR_ S x0 12 23).bind fun v3 =>
    (gR_ S x0 12 23).bind fun v4 =>
    (aZ_ S M v4 x3).bind fun v5 =>
    if v5 = 0 then
      (sZ_ S M v3 x3 0).bind fun M6 =>
      f_X12_findSet_20 S k_4 x0 x1 x2 x3 n M6 (wr_i (x4 + 1))
    else
      (vc_ S x0 12 (f_X12_isOf S M x0 x4 x1)).bind fun v7 =>
      if v7 = 0 then
        (sZ_ S M v3 x3 1).bind fun M8 =>
        f_X12_findSet_20 S k_4 x0 x1 x2 x3 n M8 (wr_i (x4 + 1))
      else
        (vc_ S x0 12 (f_X12_fitsSaid S M x0 x4 x3)).bind fun v9 =>
        if v9 = 0 then
          (sZ_ S M v3 x3 0).bind fun M10 =>
          f_X12_findSet_20 S k_4 x0 x1 x2 x3 n M10 (wr_i (x4 + 1))
        else
          (sZ_ S M v3 x3 1).bind fun M11 =>
          f_X12_findSet_20 S k_4 x0 x1 x2 x3 n M11 (wr_i (x4 + 1))
  else
    (gR_ S x0 12 23).bind fun v12 =>
    (aZ_ S M v12 x3).bind fun v13 =>
    if v13 = 0 then
      k_4 M (wr_i (x2 + 0)) (wr_i (x3 + 1))
    else
      k_4 M (wr_i (x2 + 1)) (wr_i (x3 + 1))
def f_X12_findSet_4 (S : SH_s) (x0 : Nat) (x1 : Int) : Nat → Mem_m → Int → Int → Option (Mem_m × Int)
  | 0, _, _, _ => none
  | n + 1, M, x2, x3 =>
  if x3 < 24 then
    (gR_ S x0 12 23).bind fun v1 =>
    (sZ_ S M v1 x3 1).bind fun M2 =>
    f_X12_findSet_20 S (fun M x2 x3 => f_X12_findSet_4 S x0 x1 n M x2 x3) x0 x1 x2 x3 FU_ M2 0
  else
    some (M, x2)
def f_X12_findSet (S : SH_s) (M : Mem_m) (x0 : Nat) (x1 : Int) : Option (Mem_m × Int) :=
  f_X12_findSet_4 S x0 x1 FU_ M 0 0
def f_X12_isVillage (S : SH_s) (M : Mem_m) (x0 : Int) : Option Int :=
  (f_X12_isIn S M x0 (-1) 3).bind fun v1 =>
  if v1 = 0 ∨ v1 = 1 then some v1 else none
def f_X12_orders_32 (S : SH_s) (M : Mem_m) (x0 : Nat) (x2 : Int) : Nat → Int → Int → Option (Mem_m × Int)
  | 0, _, _ => none
  | n + 1, x4, x5 =>
  if x5 < 24 then
    (gR_ S x0 12 23).bind fun v1 =>
    (aZ_ S M v1 x5).bind fun v2 =>
    if v2 = 0 then
      f_X12_orders_32 S M x0 x2 n x4 (wr_i (x5 + 1))
    else
      if x4 = x2 then
        some (M, x5)
      else
        f_X12_orders_32 S M x0 x2 n (wr_i (x4 + 1)) (wr_i (x5 + 1))
  else
    some (M, (-4))
def f_X12_orders (S : SH_s) (M : Mem_m) (x0 : Nat) (x1 : Int) (x2 : Int) : Option (Mem_m × Int) :=
  (f_X12_isVillage S M x1).bind fun v1 =>
  if v1 = 0 then
    some (M, (-1))
  else
    if x2 < (-1) then
      some (M, (-1))
    else
      (vc_ S x0 12 (f_X12_findSet S M x0 x1)).bind fun z2 =>
      if x2 < 0 then
        some (z2.1, z2.2)
      else
        f_X12_orders_32 S z2.1 x0 x2 FU_ 0 0
def f_X12_fits (S : SH_s) (M : Mem_m) (x0 : Nat) (x1 : Int) (x2 : Int) : Option Int :=
  (f_X12_isShelf S M x1).bind fun v1 =>
  if v1 = 0 then
    some (-1)
  else
    (f_X12_isIn S M x2 0 23).bind fun v2 =>
    if v2 = 0 then
      some (-1)
    else
      (vc_ S x0 12 (f_X12_wrongParts S M x0 x1)).bind fun v3 =>
      if v3 = 0 then
        (vc_ S x0 12 (f_X12_partsOf S M x0 x1)).bind fun v4 =>
        (f_X12_fitsOrder S M v4 x2).bind fun v5 =>
        if v5 = 0 then
          some 0
        else
          some 1
      else
        some v3
def f_X12_tries_59 (S : SH_s) (M : Mem_m) (x0 : Nat) (x1 : Int) (s0 : Int) : Option Mem_m :=
  (gI_ S M x0 12 25).bind fun v1 =>
  if s0 < v1 then
    (pI_ S M x0 12 25 s0).bind fun M2 =>
    (pI_ S M2 x0 12 24 x1).bind fun M3 =>
    some M3
  else
    some M
def f_X12_tries_5 (S : SH_s) (M : Mem_m) (x0 : Nat) (x1 : Int) (x2 : Int) : Nat → Int → Int → Option Mem_m
  | 0, _, _ => none
  | n + 1, x3, x4 =>
  if x4 < 24 then
    (gR_ S x0 12 23).bind fun v1 =>
    (aZ_ S M v1 x4).bind fun v2 =>
    if v2 = 0 then
      f_X12_tries_5 S M x0 x1 x2 n (wr_i (x3 + 0)) (wr_i (x4 + 1))
    else
      (f_X12_fitsOrder S M x1 x4).bind fun v3 =>
      if v3 = 0 then
        f_X12_tries_5 S M x0 x1 x2 n (wr_i (x3 + 0)) (wr_i (x4 + 1))
      else
        f_X12_tries_5 S M x0 x1 x2 n (wr_i (x3 + 1)) (wr_i (x4 + 1))
  else
    if x3 ≤ wr_i (x2 - x3) then
      f_X12_tries_59 S M x0 x1 (wr_i (x2 - x3))
    else
      f_X12_tries_59 S M x0 x1 x3
def f_X12_tries (S : SH_s) (M : Mem_m) (x0 : Nat) (x1 : Int) (x2 : Int) : Option Mem_m :=
  f_X12_tries_5 S M x0 x1 x2 FU_ 0 0
def f_X12_goesOn_15 (S : SH_s) (rec : Mem_m → Nat → Int → Int → Int → Int → Int → Option Mem_m) (x0 : Nat) (x1 : Int) (x2 : Int) (x3 : Int) (x4 : Int) (x5 : Int) : Nat → Mem_m → Int → Option Mem_m
  | 0, _, _ => none
  | n + 1, M, x6 =>
  if x6 < 4 then
    if an_i (sr_i x4 x6) 1 = 0 then
      (vc_ S x0 12 (rec M x0 (wr_i (x1 + (wr_i ((wr_i (x6 + 1)) * x2)))) (wr_i (5 * x2)) (wr_i (x3 - 1)) (or_i x4 (sl_i 1 x6)) x5)).bind fun M1 =>
      f_X12_goesOn_15 S rec x0 x1 x2 x3 x4 x5 n M1 (wr_i (x6 + 1))
    else
      f_X12_goesOn_15 S rec x0 x1 x2 x3 x4 x5 n M (wr_i (x6 + 1))
  else
    some M
def f_X12_goesOn_e (S : SH_s) (rec : Mem_m → Nat → Int → Int → Int → Int → Int → Option Mem_m) (M : Mem_m) (x0 : Nat) (x1 : Int) (x2 : Int) (x3 : Int) (x4 : Int) (x5 : Int) : Option Mem_m :=
  if x3 = 0 then
    (vc_ S x0 12 (f_X12_tries S M x0 x1 x5)).bind fun M1 =>
    some M1
  else
    f_X12_goesOn_15 S rec x0 x1 x2 x3 x4 x5 FU_ M 0
def f_X12_goesOn : Nat → SH_s → Mem_m → Nat → Int → Int → Int → Int → Int → Option Mem_m
  | 0 => fun _ _ _ _ _ _ _ _ => none
  | d + 1 => fun S M x0 x1 x2 x3 x4 x5 => f_X12_goesOn_e S (fun M x0 x1 x2 x3 x4 x5 => f_X12_goesOn d S M x0 x1 x2 x3 x4 x5) M x0 x1 x2 x3 x4 x5
def f_X12_ask_42 (S : SH_s) (x0 : Nat) (x2 : Int) (x3 : Int) : Nat → Mem_m → Int → Option (Mem_m × Int)
  | 0, _, _ => none
  | n + 1, M, x4 =>
  if x4 ≤ 4 then
    (vc_ S x0 12 (f_X12_goesOn 12 S M x0 0 1 x4 0 x3)).bind fun M1 =>
    f_X12_ask_42 S x0 x2 x3 n M1 (wr_i (x4 + 1))
  else
    if x2 = 0 then
      (gI_ S M x0 12 24).bind fun v2 =>
      some (M, v2)
    else
      (gI_ S M x0 12 25).bind fun v3 =>
      some (M, v3)
def f_X12_ask (S : SH_s) (M : Mem_m) (x0 : Nat) (x1 : Int) (x2 : Int) : Option (Mem_m × Int) :=
  (f_X12_isVillage S M x1).bind fun v1 =>
  if v1 = 0 then
    some (M, (-1))
  else
    (f_X12_isIn S M x2 0 1).bind fun v2 =>
    if v2 = 0 then
      some (M, (-1))
    else
      (vc_ S x0 12 (f_X12_findSet S M x0 x1)).bind fun z3 =>
      if z3.2 < 2 then
        some (z3.1, (-4))
      else
        (pI_ S z3.1 x0 12 25 25).bind fun M4 =>
        f_X12_ask_42 S x0 x2 z3.2 FU_ M4 2
def f_X12_who_52 (S : SH_s) (k_36 : Int → Int → Int → Option Int) (M : Mem_m) (x0 : Nat) (x1 : Int) (x2 : Int) (x3 : Int) (x4 : Int) (x5 : Int) : Nat → Int → Int → Int → Option Int
  | 0, _, _, _ => none
  | n + 1, x6, x7, x8 =>
  (gR_ S x0 12 0).bind fun v1 =>
  (aI_ S M v1 1065).bind fun v2 =>
  if x8 < v2 then
    (gR_ S x0 12 0).bind fun v3 =>
    (aI_ S M v3 (wr_i ((wr_i (776 + (wr_i (8 * x8)))) + 5))).bind fun v4 =>
    if v4 = x5 then
      (gR_ S x0 12 0).bind fun v5 =>
      (aI_ S M v5 (wr_i ((wr_i (776 + (wr_i (8 * x8)))) + 6))).bind fun v6 =>
      if v6 ≤ x7 then
        f_X12_who_52 S k_36 M x0 x1 x2 x3 x4 x5 n (wr_i (x6 + 1)) x7 (wr_i (x8 + 1))
      else
        (gR_ S x0 12 0).bind fun v7 =>
        (aI_ S M v7 (wr_i ((wr_i (776 + (wr_i (8 * x8)))) + 6))).bind fun v8 =>
        f_X12_who_52 S k_36 M x0 x1 x2 x3 x4 x5 n (wr_i (x6 + 1)) v8 (wr_i (x8 + 1))
    else
      f_X12_who_52 S k_36 M x0 x1 x2 x3 x4 x5 n x6 x7 (wr_i (x8 + 1))
  else
    (gR_ S x0 12 0).bind fun v9 =>
    (aI_ S M v9 (wr_i (1046 + x5))).bind fun v10 =>
    if v10 = x1 then
      if x6 < x4 then
        if x6 ≤ 0 then
          k_36 x5 x6 (wr_i (x5 + 1))
        else
          (gR_ S x0 12 0).bind fun v11 =>
          (aI_ S M v11 (wr_i (1054 + x5))).bind fun v12 =>
          if wr_i (x2 - x7) < v12 then
            k_36 x3 x4 (wr_i (x5 + 1))
          else
            k_36 x5 x6 (wr_i (x5 + 1))
      else
        k_36 x3 x4 (wr_i (x5 + 1))
    else
      k_36 x3 x4 (wr_i (x5 + 1))
def f_X12_who_36 (S : SH_s) (M : Mem_m) (x0 : Nat) (x1 : Int) (x2 : Int) : Nat → Int → Int → Int → Option Int
  | 0, _, _, _ => none
  | n + 1, x3, x4, x5 =>
  if x5 < 8 then
    f_X12_who_52 S (fun x3 x4 x5 => f_X12_who_36 S M x0 x1 x2 n x3 x4 x5) M x0 x1 x2 x3 x4 x5 FU_ 0 (-1) 0
  else
    some x3
def f_X12_who (S : SH_s) (M : Mem_m) (x0 : Nat) (x1 : Int) (x2 : Int) : Option Int :=
  (f_X12_isIn S M x1 0 3).bind fun v1 =>
  if v1 = 0 then
    some (-1)
  else
    (f_X12_isIn S M x2 0 999).bind fun v2 =>
    if v2 = 0 then
      some (-1)
    else
      f_X12_who_36 S M x0 x1 x2 FU_ (-4) 21 0
def f_X12_noneFits_61 (S : SH_s) (k_2 : Int → Option Int) (M : Mem_m) (x0 : Nat) (x1 : Int) (x2 : Int) (x3 : Int) : Option Int :=
  if x3 = 0 then
    k_2 (wr_i (x2 + 1))
  else
    some 0
def f_X12_noneFits_13 (S : SH_s) (k_2 : Int → Option Int) (M : Mem_m) (x0 : Nat) (x1 : Int) (x2 : Int) : Nat → Int → Int → Option Int
  | 0, _, _ => none
  | n + 1, x3, x4 =>
  (gR_ S x0 12 0).bind fun v1 =>
  (aI_ S M v1 1065).bind fun v2 =>
  if x4 < v2 then
    if x3 = 0 then
      f_X12_noneFits_61 S k_2 M x0 x1 x2 x3
    else
      if an_i (sr_i x1 x4) 1 = 0 then
        f_X12_noneFits_13 S k_2 M x0 x1 x2 n 1 (wr_i (x4 + 1))
      else
        (vc_ S x0 12 (f_X12_fitsSaid S M x0 x4 x2)).bind fun v3 =>
        if v3 = 0 then
          f_X12_noneFits_13 S k_2 M x0 x1 x2 n 0 (wr_i (x4 + 1))
        else
          f_X12_noneFits_13 S k_2 M x0 x1 x2 n 1 (wr_i (x4 + 1))
  else
    f_X12_noneFits_61 S k_2 M x0 x1 x2 x3
def f_X12_noneFits_2 (S : SH_s) (M : Mem_m) (x0 : Nat) (x1 : Int) : Nat → Int → Option Int
  | 0, _ => none
  | n + 1, x2 =>
  if x2 < 24 then
    f_X12_noneFits_13 S (fun x2 => f_X12_noneFits_2 S M x0 x1 n x2) M x0 x1 x2 FU_ 1 0
  else
    some 1
def f_X12_noneFits (S : SH_s) (M : Mem_m) (x0 : Nat) (x1 : Int) : Option Int :=
  f_X12_noneFits_2 S M x0 x1 FU_ 0
def f_X12_none_173 (S : SH_s) (k_11 : Int → Option Int) (k_22 : Int → Int → Option Int) (k_51 : Int → Int → Option Int) (k_92 : Int → Int → Option Int) (M : Mem_m) (x0 : Nat) (x1 : Int) (x2 : Int) (x3 : Int) (x4 : Int) (x5 : Int) (x6 : Int) (x7 : Int) : Option Int :=
  (vc_ S x0 12 (f_X12_noneFits S M x0 x7)).bind fun v1 =>
  if v1 = 0 then
    k_92 x3 (wr_i (x6 + 1))
  else
    k_92 x7 (wr_i (x6 + 1))
def f_X12_none_114 (S : SH_s) (k_11 : Int → Option Int) (k_22 : Int → Int → Option Int) (k_51 : Int → Int → Option Int) (k_92 : Int → Int → Option Int) (M : Mem_m) (x0 : Nat) (x1 : Int) (x2 : Int) (x3 : Int) (x4 : Int) (x5 : Int) (x6 : Int) (s0 : Int) (s1 : Int) : Option Int :=
  if s1 < s0 then
    (vc_ S x0 12 (f_X12_isOf S M x0 x4 x1)).bind fun v1 =>
    if v1 = 0 then
      k_92 x3 (wr_i (x6 + 1))
    else
      (vc_ S x0 12 (f_X12_isOf S M x0 x5 x1)).bind fun v2 =>
      if v2 = 0 then
        k_92 x3 (wr_i (x6 + 1))
      else
        (vc_ S x0 12 (f_X12_isOf S M x0 x6 x1)).bind fun v3 =>
        if v3 = 0 then
          k_92 x3 (wr_i (x6 + 1))
        else
          if x3 < 0 then
            f_X12_none_173 S k_11 k_22 k_51 k_92 M x0 x1 x2 x3 x4 x5 x6 (or_i (or_i (sl_i 1 x4) (sl_i 1 x5)) (sl_i 1 x6))
          else
            if or_i (or_i (sl_i 1 x4) (sl_i 1 x5)) (sl_i 1 x6) < x3 then
              f_X12_none_173 S k_11 k_22 k_51 k_92 M x0 x1 x2 x3 x4 x5 x6 (or_i (or_i (sl_i 1 x4) (sl_i 1 x5)) (sl_i 1 x6))
            else
              k_92 x3 (wr_i (x6 + 1))
  else
    k_51 x3 (wr_i (x5 + 1))
def f_X12_none_92 (S : SH_s) (k_11 : Int → Option Int) (k_22 : Int → Int → Option Int) (k_51 : Int → Int → Option Int) (M : Mem_m) (x0 : Nat) (x1 : Int) (x2 : Int) (x4 : Int) (x5 : Int) : Nat → Int → Int → Option Int
  | 0, _, _ => none
  | n + 1, x3, x6 =>
  if x2 ≤ 2 then
    f_X12_none_114 S k_11 k_22 k_51 (fun x3 x6 => f_X12_none_92 S k_11 k_22 k_51 M x0 x1 x2 x4 x5 n x3 x6) M x0 x1 x2 x3 x4 x5 x6 (wr_i (x5 + 1)) x6
  else
    (gR_ S x0 12 0).bind fun v1 =>
    (aI_ S M v1 1065).bind fun v2 =>
    f_X12_none_114 S k_11 k_22 k_51 (fun x3 x6 => f_X12_none_92 S k_11 k_22 k_51 M x0 x1 x2 x4 x5 n x3 x6) M x0 x1 x2 x3 x4 x5 x6 v2 x6
def f_X12_none_73 (S : SH_s) (k_11 : Int → Option Int) (k_22 : Int → Int → Option Int) (k_51 : Int → Int → Option Int) (M : Mem_m) (x0 : Nat) (x1 : Int) (x2 : Int) (x3 : Int) (x4 : Int) (x5 : Int) (s0 : Int) (s1 : Int) : Option Int :=
  if s1 < s0 then
    if x2 ≤ 2 then
      f_X12_none_92 S k_11 k_22 k_51 M x0 x1 x2 x4 x5 FU_ x3 x5
    else
      f_X12_none_92 S k_11 k_22 k_51 M x0 x1 x2 x4 x5 FU_ x3 (wr_i (x5 + 1))
  else
    k_22 x3 (wr_i (x4 + 1))
def f_X12_none_51 (S : SH_s) (k_11 : Int → Option Int) (k_22 : Int → Int → Option Int) (M : Mem_m) (x0 : Nat) (x1 : Int) (x2 : Int) (x4 : Int) : Nat → Int → Int → Option Int
  | 0, _, _ => none
  | n + 1, x3, x5 =>
  if x2 ≤ 1 then
    f_X12_none_73 S k_11 k_22 (fun x3 x5 => f_X12_none_51 S k_11 k_22 M x0 x1 x2 x4 n x3 x5) M x0 x1 x2 x3 x4 x5 (wr_i (x4 + 1)) x5
  else
    (gR_ S x0 12 0).bind fun v1 =>
    (aI_ S M v1 1065).bind fun v2 =>
    f_X12_none_73 S k_11 k_22 (fun x3 x5 => f_X12_none_51 S k_11 k_22 M x0 x1 x2 x4 n x3 x5) M x0 x1 x2 x3 x4 x5 v2 x5
def f_X12_none_22 (S : SH_s) (k_11 : Int → Option Int) (M : Mem_m) (x0 : Nat) (x1 : Int) (x2 : Int) : Nat → Int → Int → Option Int
  | 0, _, _ => none
  | n + 1, x3, x4 =>
  (gR_ S x0 12 0).bind fun v1 =>
  (aI_ S M v1 1065).bind fun v2 =>
  if x4 < v2 then
    if x2 ≤ 1 then
      f_X12_none_51 S k_11 (fun x3 x4 => f_X12_none_22 S k_11 M x0 x1 x2 n x3 x4) M x0 x1 x2 x4 FU_ x3 x4
    else
      f_X12_none_51 S k_11 (fun x3 x4 => f_X12_none_22 S k_11 M x0 x1 x2 n x3 x4) M x0 x1 x2 x4 FU_ x3 (wr_i (x4 + 1))
  else
    if x3 < 0 then
      k_11 (wr_i (x2 + 1))
    else
      some x3
def f_X12_none_11 (S : SH_s) (M : Mem_m) (x0 : Nat) (x1 : Int) : Nat → Int → Option Int
  | 0, _ => none
  | n + 1, x2 =>
  if x2 < 4 then
    f_X12_none_22 S (fun x2 => f_X12_none_11 S M x0 x1 n x2) M x0 x1 x2 FU_ (-4) 0
  else
    some (-4)
def f_X12_none (S : SH_s) (M : Mem_m) (x0 : Nat) (x1 : Int) : Option Int :=
  (f_X12_isVillage S M x1).bind fun v1 =>
  if v1 = 0 then
    some (-1)
  else
    f_X12_none_11 S M x0 x1 FU_ 1
def f_X12_bits_4 (S : SH_s) (M : Mem_m) : Nat → Int → Int → Option Int
  | 0, _, _ => none
  | n + 1, x1, x2 =>
  if x2 ≤ 0 then
    some x1
  else
    f_X12_bits_4 S M n (wr_i (x1 + (an_i x2 1))) (sr_i x2 1)
def f_X12_bits (S : SH_s) (M : Mem_m) (x0 : Int) : Option Int :=
  f_X12_bits_4 S M FU_ 0 x0
def f_X12_reader_33 (S : SH_s) (x0 : Nat) (x1 : Int) (x2 : Int) : Nat → Mem_m → Int → Option (Mem_m × Int)
  | 0, _, _ => none
  | n + 1, M, x4 =>
  (gR_ S x0 12 0).bind fun v1 =>
  (aI_ S M v1 1062).bind fun v2 =>
  if x4 < v2 then
    (vc_ S x0 12 (f_X12_counts S M x0 x4)).bind fun v3 =>
    if v3 = 0 then
      f_X12_reader_33 S x0 x1 x2 n M (wr_i (x4 + 1))
    else
      (vc_ S x0 12 (f_X12_notesOf S M x0 x4)).bind fun z4 =>
      if z4.2 < 1048576 then
        (f_X12_bits S z4.1 (an_i z4.2 (xo_i x1 (-1)))).bind fun v5 =>
        if v5 ≤ x2 then
          some (z4.1, x4)
        else
          f_X12_reader_33 S x0 x1 x2 n z4.1 (wr_i (x4 + 1))
      else
        f_X12_reader_33 S x0 x1 x2 n z4.1 (wr_i (x4 + 1))
  else
    some (M, (-4))
def f_X12_reader (S : SH_s) (M : Mem_m) (x0 : Nat) (x1 : Int) (x2 : Int) (x3 : Int) : Option (Mem_m × Int) :=
  (f_X12_isIn S M x1 0 65535).bind fun v1 =>
  if v1 = 0 then
    some (M, (-1))
  else
    (f_X12_isIn S M x2 0 9).bind fun v2 =>
    if v2 = 0 then
      some (M, (-1))
    else
      if x3 < 0 then
        some (M, (-1))
      else
        f_X12_reader_33 S x0 x1 x2 FU_ M x3
def f_X12_word (S : SH_s) (M : Mem_m) (x0 : Nat) (x1 : Int) (x2 : Int) : Option Int :=
  (gR_ S x0 12 0).bind fun v1 =>
  (aI_ S M v1 (wr_i ((wr_i (936 + (wr_i (10 * x1)))) + x2))).bind fun v2 =>
  some v2
def f_X12_neighbour_81 (S : SH_s) (x0 : Nat) (x1 : Int) (x2 : Int) (x4 : Int) : Nat → Mem_m → Int → Option (Mem_m × Int)
  | 0, _, _ => none
  | n + 1, M, x5 =>
  if x5 < 8 then
    (gR_ S x0 12 0).bind fun v1 =>
    (gR_ S x0 12 4).bind fun v2 =>
    (aI_ S M v2 x1).bind fun v3 =>
    if x5 < v3 then
      (gR_ S x0 12 5).bind fun v4 =>
      (aI_ S M v4 (wr_i ((wr_i (80 * x1)) + x5))).bind fun v5 =>
      (sI_ S M v1 (wr_i ((wr_i (x4 + 1)) + x5)) v5).bind fun M6 =>
      f_X12_neighbour_81 S x0 x1 x2 x4 n M6 (wr_i (x5 + 1))
    else
      (sI_ S M v1 (wr_i ((wr_i (x4 + 1)) + x5)) 0).bind fun M7 =>
      f_X12_neighbour_81 S x0 x1 x2 x4 n M7 (wr_i (x5 + 1))
  else
    (gR_ S x0 12 0).bind fun v8 =>
    (sI_ S M v8 (wr_i (x4 + 9)) x2).bind fun M9 =>
    (gR_ S x0 12 0).bind fun v10 =>
    (aI_ S M9 v10 1066).bind fun v11 =>
    (sI_ S M9 v10 1066 (wr_i (v11 + 1))).bind fun M12 =>
    (gR_ S x0 12 0).bind fun v13 =>
    (aI_ S M12 v13 1066).bind fun v14 =>
    some (M12, wr_i (v14 - 1))
def f_X12_neighbour (S : SH_s) (M : Mem_m) (x0 : Nat) (x1 : Int) (x2 : Int) : Option (Mem_m × Int) :=
  (f_X12_isShelf S M x1).bind fun v1 =>
  if v1 = 0 then
    some (M, (-1))
  else
    (vc_ S x0 12 (f_X12_isCard S M x0 x2)).bind fun v2 =>
    if v2 = 0 then
      some (M, (-1))
    else
      (gR_ S x0 12 0).bind fun v3 =>
      (aI_ S M v3 1066).bind fun v4 =>
      if v4 = 10 then
        some (M, (-2))
      else
        (vc_ S x0 12 (f_X12_wrongSounds S M x0 x1 1 8)).bind fun v5 =>
        if v5 = 0 then
          (gR_ S x0 12 0).bind fun v6 =>
          (aI_ S M v6 1066).bind fun v7 =>
          (gR_ S x0 12 0).bind fun v8 =>
          (gR_ S x0 12 4).bind fun v9 =>
          (aI_ S M v9 x1).bind fun v10 =>
          (sI_ S M v8 (wr_i (936 + (wr_i (10 * v7)))) v10).bind fun M11 =>
          f_X12_neighbour_81 S x0 x1 x2 (wr_i (936 + (wr_i (10 * v7)))) FU_ M11 0
        else
          some (M, v5)
def f_X12_findLaws_53 (S : SH_s) (k_23 : Mem_m → Int → Option Mem_m) (x0 : Nat) (x1 : Int) (x2 : Int) (x3 : Int) : Nat → Mem_m → Int → Option Mem_m
  | 0, _, _ => none
  | n + 1, M, x4 =>
  (vc_ S x0 12 (f_X12_of S M x0 x2 0)).bind fun v1 =>
  if x4 < v1 then
    (vc_ S x0 12 (f_X12_of S M x0 x2 0)).bind fun v2 =>
    (vc_ S x0 12 (f_X12_word S M x0 x3 0)).bind fun v3 =>
    if v2 = v3 then
      (gR_ S x0 12 27).bind fun v4 =>
      (vc_ S x0 12 (f_X12_of S M x0 x2 (wr_i (1 + x4)))).bind fun v5 =>
      (vc_ S x0 12 (f_X12_word S M x0 x3 (wr_i (1 + x4)))).bind fun v6 =>
      (aI_ S M v4 (wr_i ((wr_i (10 * v5)) + v6))).bind fun v7 =>
      (sI_ S M v4 (wr_i ((wr_i (10 * v5)) + v6)) (wr_i (v7 + 1))).bind fun M8 =>
      f_X12_findLaws_53 S k_23 x0 x1 x2 x3 n M8 (wr_i (x4 + 1))
    else
      k_23 M (wr_i (x1 + 1))
  else
    k_23 M (wr_i (x1 + 1))
def f_X12_findLaws_139 (S : SH_s) (k_124 : Mem_m → Int → Option Mem_m) (x0 : Nat) (x1 : Int) : Nat → Mem_m → Int → Option Mem_m
  | 0, _, _ => none
  | n + 1, M, x2 =>
  if x2 < 10 then
    (gR_ S x0 12 28).bind fun v1 =>
    (gR_ S x0 12 27).bind fun v2 =>
    (aI_ S M v2 (wr_i ((wr_i (10 * x1)) + x2))).bind fun v3 =>
    (gR_ S x0 12 27).bind fun v4 =>
    (gR_ S x0 12 28).bind fun v5 =>
    (aI_ S M v5 x1).bind fun v6 =>
    (aI_ S M v4 (wr_i ((wr_i (10 * x1)) + v6))).bind fun v7 =>
    if v3 ≤ v7 then
      (gR_ S x0 12 28).bind fun v8 =>
      (aI_ S M v8 x1).bind fun v9 =>
      (sI_ S M v1 x1 v9).bind fun M10 =>
      f_X12_findLaws_139 S k_124 x0 x1 n M10 (wr_i (x2 + 1))
    else
      (sI_ S M v1 x1 x2).bind fun M11 =>
      f_X12_findLaws_139 S k_124 x0 x1 n M11 (wr_i (x2 + 1))
  else
    (gR_ S x0 12 28).bind fun v12 =>
    (gR_ S x0 12 27).bind fun v13 =>
    (gR_ S x0 12 28).bind fun v14 =>
    (aI_ S M v14 x1).bind fun v15 =>
    (aI_ S M v13 (wr_i ((wr_i (10 * x1)) + v15))).bind fun v16 =>
    if v16 = 0 then
      (sI_ S M v12 x1 (-4)).bind fun M17 =>
      k_124 M17 (wr_i (x1 + 1))
    else
      (gR_ S x0 12 28).bind fun v18 =>
      (aI_ S M v18 x1).bind fun v19 =>
      (sI_ S M v12 x1 v19).bind fun M20 =>
      k_124 M20 (wr_i (x1 + 1))
def f_X12_findLaws_302 (S : SH_s) (k_251 : Mem_m → Int → Option Mem_m) (M : Mem_m) (x0 : Nat) (x1 : Int) (x2 : Int) (x3 : Int) : Nat → Int → Int → Option Mem_m
  | 0, _, _ => none
  | n + 1, x4, x5 =>
  (vc_ S x0 12 (f_X12_of S M x0 x2 0)).bind fun v1 =>
  if x5 < v1 then
    (gR_ S x0 12 28).bind fun v2 =>
    (vc_ S x0 12 (f_X12_of S M x0 x2 (wr_i (1 + x5)))).bind fun v3 =>
    (aI_ S M v2 v3).bind fun v4 =>
    (vc_ S x0 12 (f_X12_word S M x0 x3 (wr_i (1 + x5)))).bind fun v5 =>
    if v4 = v5 then
      f_X12_findLaws_302 S k_251 M x0 x1 x2 x3 n (wr_i (x4 + 1)) (wr_i (x5 + 1))
    else
      f_X12_findLaws_302 S k_251 M x0 x1 x2 x3 n (wr_i (x4 + 0)) (wr_i (x5 + 1))
  else
    (gI_ S M x0 12 29).bind fun v6 =>
    (pI_ S M x0 12 29 (wr_i (v6 + x4))).bind fun M7 =>
    (gI_ S M7 x0 12 30).bind fun v8 =>
    (vc_ S x0 12 (f_X12_of S M7 x0 x2 0)).bind fun v9 =>
    if x4 = v9 then
      (pI_ S M7 x0 12 30 (wr_i (v8 + 1))).bind fun M10 =>
      k_251 M10 (wr_i (x1 + 1))
    else
      (pI_ S M7 x0 12 30 (wr_i (v8 + 0))).bind fun M11 =>
      k_251 M11 (wr_i (x1 + 1))
def f_X12_findLaws_251 (S : SH_s) (x0 : Nat) : Nat → Mem_m → Int → Option Mem_m
  | 0, _, _ => none
  | n + 1, M, x1 =>
  (gR_ S x0 12 0).bind fun v1 =>
  (aI_ S M v1 1066).bind fun v2 =>
  if x1 < v2 then
    (vc_ S x0 12 (f_X12_word S M x0 x1 9)).bind fun v3 =>
    (gR_ S x0 12 26).bind fun v4 =>
    (aI_ S M v4 x1).bind fun v5 =>
    (vc_ S x0 12 (f_X12_of S M x0 v3 0)).bind fun v6 =>
    (vc_ S x0 12 (f_X12_word S M x0 v5 0)).bind fun v7 =>
    if v6 = v7 then
      f_X12_findLaws_302 S (fun M x1 => f_X12_findLaws_251 S x0 n M x1) M x0 x1 v3 v5 FU_ 0 0
    else
      f_X12_findLaws_251 S x0 n M (wr_i (x1 + 1))
  else
    some M
def f_X12_findLaws_124 (S : SH_s) (x0 : Nat) : Nat → Mem_m → Int → Option Mem_m
  | 0, _, _ => none
  | n + 1, M, x1 =>
  if x1 < 10 then
    (gR_ S x0 12 28).bind fun v1 =>
    (sI_ S M v1 x1 0).bind fun M2 =>
    f_X12_findLaws_139 S (fun M x1 => f_X12_findLaws_124 S x0 n M x1) x0 x1 FU_ M2 1
  else
    (pI_ S M x0 12 29 0).bind fun M3 =>
    (pI_ S M3 x0 12 30 0).bind fun M4 =>
    f_X12_findLaws_251 S x0 FU_ M4 0
def f_X12_findLaws_23 (S : SH_s) (x0 : Nat) : Nat → Mem_m → Int → Option Mem_m
  | 0, _, _ => none
  | n + 1, M, x1 =>
  (gR_ S x0 12 0).bind fun v1 =>
  (aI_ S M v1 1066).bind fun v2 =>
  if x1 < v2 then
    (vc_ S x0 12 (f_X12_word S M x0 x1 9)).bind fun v3 =>
    (gR_ S x0 12 26).bind fun v4 =>
    (aI_ S M v4 x1).bind fun v5 =>
    f_X12_findLaws_53 S (fun M x1 => f_X12_findLaws_23 S x0 n M x1) x0 x1 v3 v5 FU_ M 0
  else
    f_X12_findLaws_124 S x0 FU_ M 0
def f_X12_findLaws_2 (S : SH_s) (x0 : Nat) : Nat → Mem_m → Int → Option Mem_m
  | 0, _, _ => none
  | n + 1, M, x1 =>
  if x1 < 100 then
    (gR_ S x0 12 27).bind fun v1 =>
    (sI_ S M v1 x1 0).bind fun M2 =>
    f_X12_findLaws_2 S x0 n M2 (wr_i (x1 + 1))
  else
    f_X12_findLaws_23 S x0 FU_ M 0
def f_X12_findLaws (S : SH_s) (M : Mem_m) (x0 : Nat) : Option Mem_m :=
  f_X12_findLaws_2 S x0 FU_ M 0
def f_X12_asItIs_2 (S : SH_s) (x0 : Nat) : Nat → Mem_m → Int → Option Mem_m
  | 0, _, _ => none
  | n + 1, M, x1 =>
  (gR_ S x0 12 0).bind fun v1 =>
  (aI_ S M v1 1066).bind fun v2 =>
  if x1 < v2 then
    (gR_ S x0 12 26).bind fun v3 =>
    (sI_ S M v3 x1 x1).bind fun M4 =>
    f_X12_asItIs_2 S x0 n M4 (wr_i (x1 + 1))
  else
    (vc_ S x0 12 (f_X12_findLaws S M x0)).bind fun M5 =>
    some M5
def f_X12_asItIs (S : SH_s) (M : Mem_m) (x0 : Nat) : Option Mem_m :=
  f_X12_asItIs_2 S x0 FU_ M 0
def f_X12_law (S : SH_s) (M : Mem_m) (x0 : Nat) (x1 : Int) : Option (Mem_m × Int) :=
  (f_X12_isIn S M x1 0 9).bind fun v1 =>
  if v1 = 0 then
    some (M, (-1))
  else
    (vc_ S x0 12 (f_X12_asItIs S M x0)).bind fun M2 =>
    (gR_ S x0 12 28).bind fun v3 =>
    (aI_ S M2 v3 x1).bind fun v4 =>
    some (M2, v4)
def f_X12_led (S : SH_s) (M : Mem_m) (x0 : Nat) (x1 : Int) : Option (Mem_m × Int) :=
  (f_X12_isIn S M x1 0 1).bind fun v1 =>
  if v1 = 0 then
    some (M, (-1))
  else
    (vc_ S x0 12 (f_X12_asItIs S M x0)).bind fun M2 =>
    if x1 = 0 then
      (gI_ S M2 x0 12 29).bind fun v3 =>
      some (M2, v3)
    else
      (gI_ S M2 x0 12 30).bind fun v4 =>
      some (M2, v4)
def f_X12_deals_52 (S : SH_s) (rec : Mem_m → Nat → Int → Int → Int → Option Mem_m) (x0 : Nat) (x1 : Int) (x2 : Int) (x3 : Int) : Nat → Mem_m → Int → Option Mem_m
  | 0, _, _ => none
  | n + 1, M, x4 =>
  (gR_ S x0 12 0).bind fun v1 =>
  (aI_ S M v1 1066).bind fun v2 =>
  if x4 < v2 then
    if an_i (sr_i x2 x4) 1 = 1 then
      f_X12_deals_52 S rec x0 x1 x2 x3 n M (wr_i (x4 + 1))
    else
      (gR_ S x0 12 26).bind fun v3 =>
      (sI_ S M v3 x1 x4).bind fun M4 =>
      (vc_ S x0 12 (rec M4 x0 (wr_i (x1 + 1)) (or_i x2 (sl_i 1 x4)) x3)).bind fun M5 =>
      f_X12_deals_52 S rec x0 x1 x2 x3 n M5 (wr_i (x4 + 1))
  else
    some M
def f_X12_deals_e (S : SH_s) (rec : Mem_m → Nat → Int → Int → Int → Option Mem_m) (M : Mem_m) (x0 : Nat) (x1 : Int) (x2 : Int) (x3 : Int) : Option Mem_m :=
  (gR_ S x0 12 0).bind fun v1 =>
  (aI_ S M v1 1066).bind fun v2 =>
  if x1 = v2 then
    (vc_ S x0 12 (f_X12_findLaws S M x0)).bind fun M3 =>
    (gI_ S M3 x0 12 31).bind fun v4 =>
    (pI_ S M3 x0 12 31 (wr_i (v4 + 1))).bind fun M5 =>
    (gI_ S M5 x0 12 32).bind fun v6 =>
    (gI_ S M5 x0 12 29).bind fun v7 =>
    if v7 < x3 then
      (pI_ S M5 x0 12 32 (wr_i (v6 + 0))).bind fun M8 =>
      some M8
    else
      (pI_ S M5 x0 12 32 (wr_i (v6 + 1))).bind fun M9 =>
      some M9
  else
    f_X12_deals_52 S rec x0 x1 x2 x3 FU_ M 0
def f_X12_deals : Nat → SH_s → Mem_m → Nat → Int → Int → Int → Option Mem_m
  | 0 => fun _ _ _ _ _ _ => none
  | d + 1 => fun S M x0 x1 x2 x3 => f_X12_deals_e S (fun M x0 x1 x2 x3 => f_X12_deals d S M x0 x1 x2 x3) M x0 x1 x2 x3
def f_X12_odds (S : SH_s) (M : Mem_m) (x0 : Nat) (x1 : Int) : Option (Mem_m × Int) :=
  (f_X12_isIn S M x1 0 1).bind fun v1 =>
  if v1 = 0 then
    some (M, (-1))
  else
    (gR_ S x0 12 0).bind fun v2 =>
    (aI_ S M v2 1066).bind fun v3 =>
    if v3 ≤ 7 then
      (vc_ S x0 12 (f_X12_asItIs S M x0)).bind fun M4 =>
      (pI_ S M4 x0 12 31 0).bind fun M5 =>
      (pI_ S M5 x0 12 32 0).bind fun M6 =>
      (gI_ S M6 x0 12 29).bind fun v7 =>
      (vc_ S x0 12 (f_X12_deals 12 S M6 x0 0 0 v7)).bind fun M8 =>
      if x1 = 0 then
        (gI_ S M8 x0 12 32).bind fun v9 =>
        some (M8, v9)
      else
        (gI_ S M8 x0 12 31).bind fun v10 =>
        some (M8, v10)
    else
      some (M, (-3))
def f_X12_bar_83 (S : SH_s) (k_19 : Mem_m → Int → Int → Option (Mem_m × Int)) (M : Mem_m) (x0 : Nat) (x1 : Int) (x2 : Int) (x4 : Int) (s0 : Int) (s1 : Int) (s2 : Nat) (s3 : Int) : Option (Mem_m × Int) :=
  (vc_ S s2 12 (f_X12_becomes S M s2 s1 s0)).bind fun z1 =>
  if z1.2 < 0 then
    k_19 z1.1 (wr_i (s3 + 0)) (wr_i (x4 + 1))
  else
    k_19 z1.1 (wr_i (s3 + 1)) (wr_i (x4 + 1))
def f_X12_bar_61 (S : SH_s) (k_19 : Mem_m → Int → Int → Option (Mem_m × Int)) (M : Mem_m) (x0 : Nat) (x1 : Int) (x2 : Int) (x3 : Int) (x4 : Int) (s0 : Int) (s1 : Int) : Option (Mem_m × Int) :=
  if s1 = s0 then
    if x2 = 0 then
      f_X12_bar_83 S k_19 M x0 x1 x2 x4 0 (wr_i ((wr_i (15 * x4)) + 14)) x0 x3
    else
      f_X12_bar_83 S k_19 M x0 x1 x2 x4 1 (wr_i ((wr_i (15 * x4)) + 14)) x0 x3
  else
    k_19 M x3 (wr_i (x4 + 1))
def f_X12_bar_19 (S : SH_s) (x0 : Nat) (x1 : Int) (x2 : Int) : Nat → Mem_m → Int → Int → Option (Mem_m × Int)
  | 0, _, _, _ => none
  | n + 1, M, x3, x4 =>
  (gR_ S x0 12 0).bind fun v1 =>
  (aI_ S M v1 1062).bind fun v2 =>
  if x4 < v2 then
    (vc_ S x0 12 (f_X12_of S M x0 x4 10)).bind fun v3 =>
    if v3 = x1 then
      (vc_ S x0 12 (f_X12_of S M x0 x4 14)).bind fun v4 =>
      if x2 = 0 then
        f_X12_bar_61 S (fun M x3 x4 => f_X12_bar_19 S x0 x1 x2 n M x3 x4) M x0 x1 x2 x3 x4 1 v4
      else
        f_X12_bar_61 S (fun M x3 x4 => f_X12_bar_19 S x0 x1 x2 n M x3 x4) M x0 x1 x2 x3 x4 0 v4
    else
      f_X12_bar_19 S x0 x1 x2 n M x3 (wr_i (x4 + 1))
  else
    some (M, x3)
def f_X12_bar (S : SH_s) (M : Mem_m) (x0 : Nat) (x1 : Int) (x2 : Int) : Option (Mem_m × Int) :=
  (f_X12_isIn S M x1 0 7).bind fun v1 =>
  if v1 = 0 then
    some (M, (-1))
  else
    f_X12_bar_19 S x0 x1 x2 FU_ M 0 0
def f_X12_takeBack (S : SH_s) (M : Mem_m) (x0 : Nat) (x1 : Int) : Option (Mem_m × Int) :=
  (vc_ S x0 12 (f_X12_isCard S M x0 x1)).bind fun v1 =>
  if v1 = 0 then
    some (M, (-1))
  else
    (vc_ S x0 12 (f_X12_becomes S M x0 (wr_i ((wr_i (15 * x1)) + 14)) 2)).bind fun z2 =>
    if z2.2 = 2 then
      some (z2.1, 0)
    else
      some (z2.1, 1)
def f_X12_leaned_32 (S : SH_s) (x0 : Nat) (x1 : Int) : Nat → Mem_m → Int → Int → Option (Mem_m × Int)
  | 0, _, _, _ => none
  | n + 1, M, x2, x3 =>
  (gR_ S x0 12 0).bind fun v1 =>
  (aI_ S M v1 1062).bind fun v2 =>
  if x3 < v2 then
    if x3 = x1 then
      f_X12_leaned_32 S x0 x1 n M x2 (wr_i (x3 + 1))
    else
      (vc_ S x0 12 (f_X12_counts S M x0 x3)).bind fun v3 =>
      if v3 = 0 then
        f_X12_leaned_32 S x0 x1 n M x2 (wr_i (x3 + 1))
      else
        (vc_ S x0 12 (f_X12_notesOf S M x0 x3)).bind fun z4 =>
        f_X12_leaned_32 S x0 x1 n z4.1 (an_i x2 (xo_i z4.2 (-1))) (wr_i (x3 + 1))
  else
    some (M, x2)
def f_X12_leaned (S : SH_s) (M : Mem_m) (x0 : Nat) (x1 : Int) : Option (Mem_m × Int) :=
  (vc_ S x0 12 (f_X12_isCard S M x0 x1)).bind fun v1 =>
  if v1 = 0 then
    some (M, (-1))
  else
    (vc_ S x0 12 (f_X12_counts S M x0 x1)).bind fun v2 =>
    if v2 = 0 then
      some (M, 0)
    else
      (vc_ S x0 12 (f_X12_notesOf S M x0 x1)).bind fun z3 =>
      f_X12_leaned_32 S x0 x1 FU_ z3.1 (an_i z3.2 65535) 0
def f_X12_isAlike (S : SH_s) (M : Mem_m) (x0 : Nat) (x1 : Int) (x2 : Int) : Option (Mem_m × Int) :=
  (vc_ S x0 12 (f_X12_of S M x0 x1 0)).bind fun v1 =>
  (vc_ S x0 12 (f_X12_of S M x0 x2 0)).bind fun v2 =>
  if v1 = v2 then
    (vc_ S x0 12 (f_X12_others S M x0 x1 x2)).bind fun z3 =>
    if z3.2 = 0 then
      some (z3.1, 1)
    else
      some (z3.1, 0)
  else
    some (M, 0)
def f_X12_weight_147 (S : SH_s) (k_29 : Mem_m → Int → Int → Option (Mem_m × Int)) (k_45 : Mem_m → Int → Int → Option (Mem_m × Int)) (M : Mem_m) (x0 : Nat) (x1 : Int) (x2 : Int) (x3 : Int) (x4 : Int) (x5 : Int) (s0 : Int) : Option (Mem_m × Int) :=
  if s0 = 0 then
    k_45 M (wr_i (x3 + 0)) (wr_i (x5 + 1))
  else
    if x2 = 1 then
      k_45 M (wr_i (x3 + 1)) (wr_i (x5 + 1))
    else
      (vc_ S x0 12 (f_X12_isAlike S M x0 x4 x5)).bind fun z1 =>
      if z1.2 = 0 then
        k_45 z1.1 (wr_i (x3 + 0)) (wr_i (x5 + 1))
      else
        k_45 z1.1 (wr_i (x3 + 1)) (wr_i (x5 + 1))
def f_X12_weight_146 (S : SH_s) (k_29 : Mem_m → Int → Int → Option (Mem_m × Int)) (k_45 : Mem_m → Int → Int → Option (Mem_m × Int)) (M : Mem_m) (x0 : Nat) (x1 : Int) (x2 : Int) (x3 : Int) (x4 : Int) (x5 : Int) : Option (Mem_m × Int) :=
  f_X12_weight_147 S k_29 k_45 M x0 x1 x2 x3 x4 x5 0
def f_X12_weight_45 (S : SH_s) (k_29 : Mem_m → Int → Int → Option (Mem_m × Int)) (x0 : Nat) (x1 : Int) (x2 : Int) (x4 : Int) : Nat → Mem_m → Int → Int → Option (Mem_m × Int)
  | 0, _, _, _ => none
  | n + 1, M, x3, x5 =>
  (gR_ S x0 12 0).bind fun v1 =>
  (aI_ S M v1 1062).bind fun v2 =>
  if x5 < v2 then
    (vc_ S x0 12 (f_X12_of S M x0 x4 14)).bind fun v3 =>
    if v3 = 0 then
      (vc_ S x0 12 (f_X12_of S M x0 x5 14)).bind fun v4 =>
      if v4 = 0 then
        (vc_ S x0 12 (f_X12_of S M x0 x4 11)).bind fun v5 =>
        if v5 = x1 then
          (vc_ S x0 12 (f_X12_of S M x0 x5 11)).bind fun v6 =>
          if v6 = x1 then
            f_X12_weight_146 S k_29 (fun M x3 x5 => f_X12_weight_45 S k_29 x0 x1 x2 x4 n M x3 x5) M x0 x1 x2 x3 x4 x5
          else
            (vc_ S x0 12 (f_X12_of S M x0 x4 10)).bind fun v7 =>
            (vc_ S x0 12 (f_X12_of S M x0 x5 10)).bind fun v8 =>
            if v7 = v8 then
              (vc_ S x0 12 (f_X12_of S M x0 x4 12)).bind fun v9 =>
              (vc_ S x0 12 (f_X12_of S M x0 x5 12)).bind fun v10 =>
              if v9 = v10 then
                f_X12_weight_147 S k_29 (fun M x3 x5 => f_X12_weight_45 S k_29 x0 x1 x2 x4 n M x3 x5) M x0 x1 x2 x3 x4 x5 1
              else
                f_X12_weight_146 S k_29 (fun M x3 x5 => f_X12_weight_45 S k_29 x0 x1 x2 x4 n M x3 x5) M x0 x1 x2 x3 x4 x5
            else
              f_X12_weight_146 S k_29 (fun M x3 x5 => f_X12_weight_45 S k_29 x0 x1 x2 x4 n M x3 x5) M x0 x1 x2 x3 x4 x5
        else
          f_X12_weight_146 S k_29 (fun M x3 x5 => f_X12_weight_45 S k_29 x0 x1 x2 x4 n M x3 x5) M x0 x1 x2 x3 x4 x5
      else
        f_X12_weight_146 S k_29 (fun M x3 x5 => f_X12_weight_45 S k_29 x0 x1 x2 x4 n M x3 x5) M x0 x1 x2 x3 x4 x5
    else
      f_X12_weight_146 S k_29 (fun M x3 x5 => f_X12_weight_45 S k_29 x0 x1 x2 x4 n M x3 x5) M x0 x1 x2 x3 x4 x5
  else
    k_29 M x3 (wr_i (x4 + 1))
def f_X12_weight_29 (S : SH_s) (x0 : Nat) (x1 : Int) (x2 : Int) : Nat → Mem_m → Int → Int → Option (Mem_m × Int)
  | 0, _, _, _ => none
  | n + 1, M, x3, x4 =>
  (gR_ S x0 12 0).bind fun v1 =>
  (aI_ S M v1 1062).bind fun v2 =>
  if x4 < v2 then
    f_X12_weight_45 S (fun M x3 x4 => f_X12_weight_29 S x0 x1 x2 n M x3 x4) x0 x1 x2 x4 FU_ M x3 0
  else
    some (M, x3)
def f_X12_weight (S : SH_s) (M : Mem_m) (x0 : Nat) (x1 : Int) (x2 : Int) : Option (Mem_m × Int) :=
  (f_X12_isIn S M x1 0 3).bind fun v1 =>
  if v1 = 0 then
    some (M, (-1))
  else
    (f_X12_isIn S M x2 0 1).bind fun v2 =>
    if v2 = 0 then
      some (M, (-1))
    else
      f_X12_weight_29 S x0 x1 x2 FU_ M 0 0
def f_X12_image_2 (S : SH_s) (x0 : Nat) : Nat → Mem_m → Int → Option (Mem_m × Int)
  | 0, _, _ => none
  | n + 1, M, x1 =>
  if x1 < 1067 then
    (gR_ S x0 12 1).bind fun v1 =>
    (gR_ S x0 12 0).bind fun v2 =>
    (aI_ S M v2 x1).bind fun v3 =>
    (sI_ S M v1 x1 v3).bind fun M4 =>
    f_X12_image_2 S x0 n M4 (wr_i (x1 + 1))
  else
    (pZ_ S M x0 12 8 1).bind fun M5 =>
    (gR_ S x0 12 0).bind fun v6 =>
    (aI_ S M5 v6 1062).bind fun v7 =>
    some (M5, v7)
def f_X12_image (S : SH_s) (M : Mem_m) (x0 : Nat) : Option (Mem_m × Int) :=
  f_X12_image_2 S x0 FU_ M 0
def f_X12_restore_12 (S : SH_s) (x0 : Nat) : Nat → Mem_m → Int → Option (Mem_m × Int)
  | 0, _, _ => none
  | n + 1, M, x1 =>
  if x1 < 1067 then
    (gR_ S x0 12 0).bind fun v1 =>
    (gR_ S x0 12 1).bind fun v2 =>
    (aI_ S M v2 x1).bind fun v3 =>
    (sI_ S M v1 x1 v3).bind fun M4 =>
    f_X12_restore_12 S x0 n M4 (wr_i (x1 + 1))
  else
    (gR_ S x0 12 0).bind fun v5 =>
    (aI_ S M v5 1062).bind fun v6 =>
    some (M, v6)
def f_X12_restore (S : SH_s) (M : Mem_m) (x0 : Nat) : Option (Mem_m × Int) :=
  (gI_ S M x0 12 8).bind fun v1 =>
  if v1 = 0 then
    some (M, (-3))
  else
    f_X12_restore_12 S x0 FU_ M 0
def f_X12_count_59 (S : SH_s) (M : Mem_m) (x0 : Nat) : Nat → Int → Int → Option (Mem_m × Int)
  | 0, _, _ => none
  | n + 1, x2, x3 =>
  (gR_ S x0 12 0).bind fun v1 =>
  (aI_ S M v1 1062).bind fun v2 =>
  if x3 < v2 then
    (vc_ S x0 12 (f_X12_of S M x0 x3 14)).bind fun v3 =>
    if v3 = 0 then
      f_X12_count_59 S M x0 n (wr_i (x2 + 1)) (wr_i (x3 + 1))
    else
      f_X12_count_59 S M x0 n (wr_i (x2 + 0)) (wr_i (x3 + 1))
  else
    some (M, x2)
def f_X12_count_108 (S : SH_s) (M : Mem_m) (x0 : Nat) : Nat → Int → Int → Option (Mem_m × Int)
  | 0, _, _ => none
  | n + 1, x2, x3 =>
  (gR_ S x0 12 0).bind fun v1 =>
  (aI_ S M v1 1063).bind fun v2 =>
  if x3 < v2 then
    (vc_ S x0 12 (f_X12_noteOf S M x0 x3 6)).bind fun v3 =>
    f_X12_count_108 S M x0 n (wr_i (x2 + v3)) (wr_i (x3 + 1))
  else
    some (M, x2)
def f_X12_count_167 (S : SH_s) (x0 : Nat) : Nat → Mem_m → Int → Int → Option (Mem_m × Int)
  | 0, _, _, _ => none
  | n + 1, M, x2, x3 =>
  (gR_ S x0 12 0).bind fun v1 =>
  (aI_ S M v1 1062).bind fun v2 =>
  if x3 < v2 then
    (vc_ S x0 12 (f_X12_counts S M x0 x3)).bind fun v3 =>
    if v3 = 0 then
      f_X12_count_167 S x0 n M (wr_i (x2 + 0)) (wr_i (x3 + 1))
    else
      (vc_ S x0 12 (f_X12_notesOf S M x0 x3)).bind fun z4 =>
      if z4.2 < 1048576 then
        f_X12_count_167 S x0 n z4.1 (wr_i (x2 + 0)) (wr_i (x3 + 1))
      else
        f_X12_count_167 S x0 n z4.1 (wr_i (x2 + 1)) (wr_i (x3 + 1))
  else
    some (M, x2)
def f_X12_count (S : SH_s) (M : Mem_m) (x0 : Nat) (x1 : Int) : Option (Mem_m × Int) :=
  if x1 = 0 then
    (gR_ S x0 12 0).bind fun v2 =>
    (aI_ S M v2 1062).bind fun v3 =>
    some (M, v3)
  else
  if x1 = 1 then
    f_X12_count_59 S M x0 FU_ 0 0
  else
  if x1 = 2 then
    (gR_ S x0 12 0).bind fun v6 =>
    (aI_ S M v6 1063).bind fun v7 =>
    some (M, v7)
  else
  if x1 = 3 then
    f_X12_count_108 S M x0 FU_ 0 0
  else
  if x1 = 4 then
    (gR_ S x0 12 0).bind fun v10 =>
    (aI_ S M v10 1064).bind fun v11 =>
    some (M, v11)
  else
  if x1 = 5 then
    (gR_ S x0 12 0).bind fun v13 =>
    (aI_ S M v13 1065).bind fun v14 =>
    some (M, v14)
  else
  if x1 = 6 then
    (gR_ S x0 12 0).bind fun v16 =>
    (aI_ S M v16 1066).bind fun v17 =>
    some (M, v17)
  else
  if x1 = 7 then
    f_X12_count_167 S x0 FU_ M 0 0
  else
  some (M, (-1))
def f_X12_keep_32 (S : SH_s) (M : Mem_m) (x0 : Nat) (x1 : Int) (x2 : Int) (x3 : Int) : Option (Mem_m × Int) :=
  (gR_ S x0 12 2).bind fun v1 =>
  (sI_ S M v1 x1 x2).bind fun M2 =>
  if x2 = 0 then
    some (M2, 0)
  else
    (vc_ S x0 12 (f_X12_noteOf S M2 x0 x3 0)).bind fun v3 =>
    (gR_ S x0 12 6).bind fun v4 =>
    (vc_ S x0 12 (f_X12_lengthOf S M2 x0 x3)).bind fun v5 =>
    (sI_ S M2 v4 x1 v5).bind fun M6 =>
    (gR_ S x0 12 7).bind fun v7 =>
    if v3 = 2 then
      (sI_ S M6 v7 x1 (-15)).bind fun M8 =>
      some (M8, 0)
    else
      (vc_ S x0 12 (f_X12_noteOf S M6 x0 x3 1)).bind fun v9 =>
      if v9 = 1 then
        (sI_ S M6 v7 x1 (-15)).bind fun M10 =>
        some (M10, 0)
      else
        if v3 = 4 then
          (sI_ S M6 v7 x1 (wr_i (x3 + 100))).bind fun M11 =>
          some (M11, 0)
        else
          if v3 = 3 then
            (vc_ S x0 12 (f_X12_noteOf S M6 x0 x3 2)).bind fun v12 =>
            (sI_ S M6 v7 x1 v12).bind fun M13 =>
            some (M13, 0)
          else
            (sI_ S M6 v7 x1 x3).bind fun M14 =>
            some (M14, 0)
def f_X12_keep (S : SH_s) (M : Mem_m) (x0 : Nat) (x1 : Int) (x2 : Int) (x3 : Int) : Option (Mem_m × Int) :=
  (f_X12_isShelf S M x1).bind fun v1 =>
  if v1 = 0 then
    some (M, (-1))
  else
    (f_X12_isIn S M x2 0 1).bind fun v2 =>
    if v2 = 0 then
      some (M, (-1))
    else
      if x2 = 1 then
        (vc_ S x0 12 (f_X12_isNote S M x0 x3)).bind fun v3 =>
        if v3 = 0 then
          some (M, (-1))
        else
          f_X12_keep_32 S M x0 x1 x2 x3
      else
        f_X12_keep_32 S M x0 x1 x2 x3
def f_X12_row_58 (S : SH_s) (x0 : Nat) (x1 : Int) : Nat → Mem_m → Int → Option (Mem_m × Int)
  | 0, _, _ => none
  | n + 1, M, x4 =>
  if x4 < 80 then
    (gR_ S x0 12 5).bind fun v1 =>
    (sI_ S M v1 (wr_i ((wr_i (80 * x1)) + x4)) 0).bind fun M2 =>
    f_X12_row_58 S x0 x1 n M2 (wr_i (x4 + 1))
  else
    some (M, 0)
def f_X12_row (S : SH_s) (M : Mem_m) (x0 : Nat) (x1 : Int) (x2 : Int) (x3 : Int) : Option (Mem_m × Int) :=
  (f_X12_isShelf S M x1).bind fun v1 =>
  if v1 = 0 then
    some (M, (-1))
  else
    (f_X12_isIn S M x2 0 2).bind fun v2 =>
    if v2 = 0 then
      some (M, (-1))
    else
      if x3 ≤ 80 then
        if x3 < 0 then
          some (M, (-14))
        else
          (gR_ S x0 12 2).bind fun v3 =>
          (sI_ S M v3 x1 2).bind fun M4 =>
          (gR_ S x0 12 3).bind fun v5 =>
          (sI_ S M4 v5 x1 x2).bind fun M6 =>
          (gR_ S x0 12 4).bind fun v7 =>
          (sI_ S M6 v7 x1 x3).bind fun M8 =>
          f_X12_row_58 S x0 x1 FU_ M8 0
      else
        some (M, (-1))
def f_X12_put (S : SH_s) (M : Mem_m) (x0 : Nat) (x1 : Int) (x2 : Int) (x3 : Int) : Option (Mem_m × Int) :=
  (vc_ S x0 12 (f_X12_wrongRow S M x0 x1 (-1))).bind fun v1 =>
  if v1 = 0 then
    (gR_ S x0 12 4).bind fun v2 =>
    (aI_ S M v2 x1).bind fun v3 =>
    (f_X12_isIn S M x2 0 (wr_i (v3 - 1))).bind fun v4 =>
    if v4 = 0 then
      some (M, (-13))
    else
      (gR_ S x0 12 5).bind fun v5 =>
      (gR_ S x0 12 3).bind fun v6 =>
      (aI_ S M v6 x1).bind fun v7 =>
      if v7 = 0 then
        (sI_ S M v5 (wr_i ((wr_i (80 * x1)) + x2)) (b8_i x3)).bind fun M8 =>
        some (M8, 0)
      else
        (gR_ S x0 12 3).bind fun v9 =>
        (aI_ S M v9 x1).bind fun v10 =>
        if v10 = 1 then
          (sI_ S M v5 (wr_i ((wr_i (80 * x1)) + x2)) (b16_i x3)).bind fun M11 =>
          some (M11, 0)
        else
          (sI_ S M v5 (wr_i ((wr_i (80 * x1)) + x2)) x3).bind fun M12 =>
          some (M12, 0)
  else
    some (M, v1)
def f_X12_element_45 (S : SH_s) (M : Mem_m) (x0 : Nat) (x1 : Int) (x2 : Int) (s0 : Int) (s1 : Nat) : Option (Mem_m × Int) :=
  (pI_ S M s1 12 9 s0).bind fun M1 =>
  (gI_ S M1 x0 12 9).bind fun v2 =>
  if v2 = 0 then
    (gR_ S x0 12 5).bind fun v3 =>
    (aI_ S M1 v3 (wr_i ((wr_i (80 * x1)) + x2))).bind fun v4 =>
    some (M1, v4)
  else
    some (M1, 0)
def f_X12_element_40 (S : SH_s) (M : Mem_m) (x0 : Nat) (x1 : Int) (x2 : Int) (s0 : Nat) : Option (Mem_m × Int) :=
  f_X12_element_45 S M x0 x1 x2 2 s0
def f_X12_element (S : SH_s) (M : Mem_m) (x0 : Nat) (x1 : Int) (x2 : Int) : Option (Mem_m × Int) :=
  (f_X12_isShelf S M x1).bind fun v1 =>
  if v1 = 0 then
    f_X12_element_45 S M x0 x1 x2 1 x0
  else
    (gR_ S x0 12 2).bind fun v2 =>
    (aI_ S M v2 x1).bind fun v3 =>
    if v3 = 2 then
      (gR_ S x0 12 4).bind fun v4 =>
      (aI_ S M v4 x1).bind fun v5 =>
      (f_X12_isIn S M x2 0 (wr_i (v5 - 1))).bind fun v6 =>
      if v6 = 0 then
        f_X12_element_40 S M x0 x1 x2 x0
      else
        f_X12_element_45 S M x0 x1 x2 0 x0
    else
      f_X12_element_40 S M x0 x1 x2 x0
def f_X12_copy_147 (S : SH_s) (k_122 : Mem_m → Int → Option (Mem_m × Int)) (M : Mem_m) (x0 : Nat) (x1 : Int) (x2 : Int) (x3 : Int) (x4 : Int) (x5 : Int) (x6 : Int) (s0 : Int) : Option (Mem_m × Int) :=
  (gR_ S x0 12 5).bind fun v1 =>
  (gR_ S x0 12 5).bind fun v2 =>
  (aI_ S M v2 (wr_i ((wr_i ((wr_i (80 * x1)) + x2)) + s0))).bind fun v3 =>
  (sI_ S M v1 (wr_i ((wr_i ((wr_i (80 * x3)) + x4)) + s0)) v3).bind fun M4 =>
  k_122 M4 (wr_i (x6 + 1))
def f_X12_copy_122 (S : SH_s) (x0 : Nat) (x1 : Int) (x2 : Int) (x3 : Int) (x4 : Int) (x5 : Int) : Nat → Mem_m → Int → Option (Mem_m × Int)
  | 0, _, _ => none
  | n + 1, M, x6 =>
  if x6 < x5 then
    if x2 ≤ x4 then
      f_X12_copy_147 S (fun M x6 => f_X12_copy_122 S x0 x1 x2 x3 x4 x5 n M x6) M x0 x1 x2 x3 x4 x5 x6 (wr_i ((wr_i (x5 - 1)) - x6))
    else
      f_X12_copy_147 S (fun M x6 => f_X12_copy_122 S x0 x1 x2 x3 x4 x5 n M x6) M x0 x1 x2 x3 x4 x5 x6 x6
  else
    some (M, x5)
def f_X12_copy (S : SH_s) (M : Mem_m) (x0 : Nat) (x1 : Int) (x2 : Int) (x3 : Int) (x4 : Int) (x5 : Int) : Option (Mem_m × Int) :=
  (f_X12_isShelf S M x1).bind fun v1 =>
  if v1 = 0 then
    some (M, (-1))
  else
    (f_X12_isShelf S M x3).bind fun v2 =>
    if v2 = 0 then
      some (M, (-1))
    else
      (gR_ S x0 12 2).bind fun v3 =>
      (aI_ S M v3 x1).bind fun v4 =>
      if v4 = 0 then
        some (M, (-11))
      else
        (gR_ S x0 12 2).bind fun v5 =>
        (aI_ S M v5 x3).bind fun v6 =>
        if v6 = 0 then
          some (M, (-11))
        else
          (gR_ S x0 12 2).bind fun v7 =>
          (aI_ S M v7 x1).bind fun v8 =>
          if v8 = 2 then
            (gR_ S x0 12 2).bind fun v9 =>
            (aI_ S M v9 x3).bind fun v10 =>
            if v10 = 2 then
              (gR_ S x0 12 3).bind fun v11 =>
              (aI_ S M v11 x1).bind fun v12 =>
              (gR_ S x0 12 3).bind fun v13 =>
              (aI_ S M v13 x3).bind fun v14 =>
              if v12 = v14 then
                if x5 < 0 then
                  some (M, (-13))
                else
                  if x2 < 0 then
                    some (M, (-13))
                  else
                    if x4 < 0 then
                      some (M, (-13))
                    else
                      (gR_ S x0 12 4).bind fun v15 =>
                      (aI_ S M v15 x1).bind fun v16 =>
                      if x5 ≤ wr_i (v16 - x2) then
                        (gR_ S x0 12 4).bind fun v17 =>
                        (aI_ S M v17 x3).bind fun v18 =>
                        if x5 ≤ wr_i (v18 - x4) then
                          f_X12_copy_122 S x0 x1 x2 x3 x4 x5 FU_ M 0
                        else
                          some (M, (-13))
                      else
                        some (M, (-13))
              else
                some (M, (-12))
            else
              some (M, (-12))
          else
            some (M, (-12))
def f_X12_wrongKept (S : SH_s) (M : Mem_m) (x0 : Nat) (x1 : Int) : Option Int :=
  (f_X12_isShelf S M x1).bind fun v1 =>
  if v1 = 0 then
    some (-1)
  else
    (gR_ S x0 12 2).bind fun v2 =>
    (aI_ S M v2 x1).bind fun v3 =>
    if v3 = 0 then
      some (-11)
    else
      (gR_ S x0 12 2).bind fun v4 =>
      (aI_ S M v4 x1).bind fun v5 =>
      if v5 = 1 then
        some 0
      else
        some (-12)
def f_X12_length (S : SH_s) (M : Mem_m) (x0 : Nat) (x1 : Int) : Option Int :=
  (vc_ S x0 12 (f_X12_wrongKept S M x0 x1)).bind fun v1 =>
  if v1 = 0 then
    (gR_ S x0 12 6).bind fun v2 =>
    (aI_ S M v2 x1).bind fun v3 =>
    some v3
  else
    some v1
def f_X12_toss (S : SH_s) (M : Mem_m) (x0 : Nat) (x1 : Int) : Option Int :=
  (vc_ S x0 12 (f_X12_wrongKept S M x0 x1)).bind fun v1 =>
  if v1 = 0 then
    (gR_ S x0 12 7).bind fun v2 =>
    (aI_ S M v2 x1).bind fun v3 =>
    some v3
  else
    some v1
