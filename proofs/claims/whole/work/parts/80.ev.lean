/-! the things of the book and the shelves, each under a name of its own; reading and writing by simp (made by wip/whole/mk_ev.py) -/
def kC_ (x : Int) : Nat := cA_ 1 x
def kD_ (x : Int) : Nat := cA_ 1 x + 1
def kE_ (x : Int) : Nat := cA_ 1 x + 2
def kN_ (x : Int) : Nat := nA_ 1 x
def kO_ (x : Int) : Nat := nA_ 1 x + 1
def kP_ (x : Int) : Nat := nA_ 1 x + 2
def kQ_ (x : Int) : Nat := nA_ 1 x + 3
def kR_ (x : Int) : Nat := nA_ 1 x + 4
def kU_ (x : Int) : Nat := rA_ 1 x
def kY_ (x : Int) : Nat := yA_ 1 x
def kW_ (x : Int) : Nat := wA_ 1 x
def kX_ (x : Int) : Nat := wA_ 1 x + 1
def kS_ (x : Int) : Nat := sA_ x
def kT_ (x : Int) : Nat := sA_ x + 1
def kF_ (x : Int) : Nat := sA_ x + 2
def kG_ (x : Int) : Nat := sA_ x + 3
def kH_ (x : Int) : Nat := sA_ x + 4
def kI_ (x : Int) : Nat := sA_ x + 5
def kJ_ (x : Int) : Nat := sA_ x + 6
theorem bd_s : ∀ c ∈ List.range 8, kd0_ (536 + 7 * c) = (9, 0) ∧ kd0_ (536 + 7 * c + 1) = (5, 0) ∧ kd0_ (536 + 7 * c + 2) = (10, 0) ∧ kd0_ (536 + 7 * c + 3) = (20, 8) ∧ kd0_ (536 + 7 * c + 4) = (10, 0) ∧ kd0_ (536 + 7 * c + 5) = (20, 8) ∧ kd0_ (536 + 7 * c + 6) = (20, 80) := by decide +kernel
theorem k1kC_ {x : Int} (h1 : 0 ≤ x) (h2 : x < 40) : kC_ x < 612 := by show 1 + 10 + 3 * x.toNat < 612; omega
theorem k2kC_ {x : Int} (h1 : 0 ≤ x) (h2 : x < 40) : kd0_ (kC_ x) = (1, 0) := (bd_c 1 (bk_mem (Or.inl rfl)) _ (i_rng h1 h2)).1
theorem k3kC_ (x : Int) : kC_ x = 1 + 10 + 3 * x.toNat := rfl
theorem k1kD_ {x : Int} (h1 : 0 ≤ x) (h2 : x < 40) : kD_ x < 612 := by show 1 + 10 + 3 * x.toNat + 1 < 612; omega
theorem k2kD_ {x : Int} (h1 : 0 ≤ x) (h2 : x < 40) : kd0_ (kD_ x) = (10, 0) := (bd_c 1 (bk_mem (Or.inl rfl)) _ (i_rng h1 h2)).2.1
theorem k3kD_ (x : Int) : kD_ x = 1 + 10 + 3 * x.toNat + 1 := rfl
theorem k1kE_ {x : Int} (h1 : 0 ≤ x) (h2 : x < 40) : kE_ x < 612 := by show 1 + 10 + 3 * x.toNat + 2 < 612; omega
theorem k2kE_ {x : Int} (h1 : 0 ≤ x) (h2 : x < 40) : kd0_ (kE_ x) = (20, 8) := (bd_c 1 (bk_mem (Or.inl rfl)) _ (i_rng h1 h2)).2.2
theorem k3kE_ (x : Int) : kE_ x = 1 + 10 + 3 * x.toNat + 2 := rfl
theorem k1kN_ {x : Int} (h1 : 0 ≤ x) (h2 : x < 16) : kN_ x < 612 := by show 1 + 130 + 5 * x.toNat < 612; omega
theorem k2kN_ {x : Int} (h1 : 0 ≤ x) (h2 : x < 16) : kd0_ (kN_ x) = (5, 0) := (bd_n 1 (bk_mem (Or.inl rfl)) _ (i_rng h1 h2)).1
theorem k3kN_ (x : Int) : kN_ x = 1 + 130 + 5 * x.toNat := rfl
theorem k1kO_ {x : Int} (h1 : 0 ≤ x) (h2 : x < 16) : kO_ x < 612 := by show 1 + 130 + 5 * x.toNat + 1 < 612; omega
theorem k2kO_ {x : Int} (h1 : 0 ≤ x) (h2 : x < 16) : kd0_ (kO_ x) = (10, 0) := (bd_n 1 (bk_mem (Or.inl rfl)) _ (i_rng h1 h2)).2.1
theorem k3kO_ (x : Int) : kO_ x = 1 + 130 + 5 * x.toNat + 1 := rfl
theorem k1kP_ {x : Int} (h1 : 0 ≤ x) (h2 : x < 16) : kP_ x < 612 := by show 1 + 130 + 5 * x.toNat + 2 < 612; omega
theorem k2kP_ {x : Int} (h1 : 0 ≤ x) (h2 : x < 16) : kd0_ (kP_ x) = (20, 8) := (bd_n 1 (bk_mem (Or.inl rfl)) _ (i_rng h1 h2)).2.2.1
theorem k3kP_ (x : Int) : kP_ x = 1 + 130 + 5 * x.toNat + 2 := rfl
theorem k1kQ_ {x : Int} (h1 : 0 ≤ x) (h2 : x < 16) : kQ_ x < 612 := by show 1 + 130 + 5 * x.toNat + 3 < 612; omega
theorem k2kQ_ {x : Int} (h1 : 0 ≤ x) (h2 : x < 16) : kd0_ (kQ_ x) = (10, 0) := (bd_n 1 (bk_mem (Or.inl rfl)) _ (i_rng h1 h2)).2.2.2.1
theorem k3kQ_ (x : Int) : kQ_ x = 1 + 130 + 5 * x.toNat + 3 := rfl
theorem k1kR_ {x : Int} (h1 : 0 ≤ x) (h2 : x < 16) : kR_ x < 612 := by show 1 + 130 + 5 * x.toNat + 4 < 612; omega
theorem k2kR_ {x : Int} (h1 : 0 ≤ x) (h2 : x < 16) : kd0_ (kR_ x) = (20, 8) := (bd_n 1 (bk_mem (Or.inl rfl)) _ (i_rng h1 h2)).2.2.2.2
theorem k3kR_ (x : Int) : kR_ x = 1 + 130 + 5 * x.toNat + 4 := rfl
theorem k1kU_ {x : Int} (h1 : 0 ≤ x) (h2 : x < 8) : kU_ x < 612 := by show 1 + 210 + x.toNat < 612; omega
theorem k2kU_ {x : Int} (h1 : 0 ≤ x) (h2 : x < 8) : kd0_ (kU_ x) = (7, 0) := bd_r 1 (bk_mem (Or.inl rfl)) _ (i_rng h1 h2)
theorem k3kU_ (x : Int) : kU_ x = 1 + 210 + x.toNat := rfl
theorem k1kY_ {x : Int} (h1 : 0 ≤ x) (h2 : x < 20) : kY_ x < 612 := by show 1 + 218 + x.toNat < 612; omega
theorem k2kY_ {x : Int} (h1 : 0 ≤ x) (h2 : x < 20) : kd0_ (kY_ x) = (8, 0) := bd_y 1 (bk_mem (Or.inl rfl)) _ (i_rng h1 h2)
theorem k3kY_ (x : Int) : kY_ x = 1 + 218 + x.toNat := rfl
theorem k1kW_ {x : Int} (h1 : 0 ≤ x) (h2 : x < 10) : kW_ x < 612 := by show 1 + 238 + 2 * x.toNat < 612; omega
theorem k2kW_ {x : Int} (h1 : 0 ≤ x) (h2 : x < 10) : kd0_ (kW_ x) = (10, 0) := (bd_w 1 (bk_mem (Or.inl rfl)) _ (i_rng h1 h2)).1
theorem k3kW_ (x : Int) : kW_ x = 1 + 238 + 2 * x.toNat := rfl
theorem k1kX_ {x : Int} (h1 : 0 ≤ x) (h2 : x < 10) : kX_ x < 612 := by show 1 + 238 + 2 * x.toNat + 1 < 612; omega
theorem k2kX_ {x : Int} (h1 : 0 ≤ x) (h2 : x < 10) : kd0_ (kX_ x) = (20, 8) := (bd_w 1 (bk_mem (Or.inl rfl)) _ (i_rng h1 h2)).2
theorem k3kX_ (x : Int) : kX_ x = 1 + 238 + 2 * x.toNat + 1 := rfl
theorem k1kS_ {x : Int} (h1 : 0 ≤ x) (h2 : x < 8) : kS_ x < 612 := by show 536 + 7 * x.toNat < 612; omega
theorem k2kS_ {x : Int} (h1 : 0 ≤ x) (h2 : x < 8) : kd0_ (kS_ x) = (9, 0) := (bd_s _ (i_rng h1 h2)).1
theorem k3kS_ (x : Int) : kS_ x = 536 + 7 * x.toNat := rfl
theorem k1kT_ {x : Int} (h1 : 0 ≤ x) (h2 : x < 8) : kT_ x < 612 := by show 536 + 7 * x.toNat + 1 < 612; omega
theorem k2kT_ {x : Int} (h1 : 0 ≤ x) (h2 : x < 8) : kd0_ (kT_ x) = (5, 0) := (bd_s _ (i_rng h1 h2)).2.1
theorem k3kT_ (x : Int) : kT_ x = 536 + 7 * x.toNat + 1 := rfl
theorem k1kF_ {x : Int} (h1 : 0 ≤ x) (h2 : x < 8) : kF_ x < 612 := by show 536 + 7 * x.toNat + 2 < 612; omega
theorem k2kF_ {x : Int} (h1 : 0 ≤ x) (h2 : x < 8) : kd0_ (kF_ x) = (10, 0) := (bd_s _ (i_rng h1 h2)).2.2.1
theorem k3kF_ (x : Int) : kF_ x = 536 + 7 * x.toNat + 2 := rfl
theorem k1kG_ {x : Int} (h1 : 0 ≤ x) (h2 : x < 8) : kG_ x < 612 := by show 536 + 7 * x.toNat + 3 < 612; omega
theorem k2kG_ {x : Int} (h1 : 0 ≤ x) (h2 : x < 8) : kd0_ (kG_ x) = (20, 8) := (bd_s _ (i_rng h1 h2)).2.2.2.1
theorem k3kG_ (x : Int) : kG_ x = 536 + 7 * x.toNat + 3 := rfl
theorem k1kH_ {x : Int} (h1 : 0 ≤ x) (h2 : x < 8) : kH_ x < 612 := by show 536 + 7 * x.toNat + 4 < 612; omega
theorem k2kH_ {x : Int} (h1 : 0 ≤ x) (h2 : x < 8) : kd0_ (kH_ x) = (10, 0) := (bd_s _ (i_rng h1 h2)).2.2.2.2.1
theorem k3kH_ (x : Int) : kH_ x = 536 + 7 * x.toNat + 4 := rfl
theorem k1kI_ {x : Int} (h1 : 0 ≤ x) (h2 : x < 8) : kI_ x < 612 := by show 536 + 7 * x.toNat + 5 < 612; omega
theorem k2kI_ {x : Int} (h1 : 0 ≤ x) (h2 : x < 8) : kd0_ (kI_ x) = (20, 8) := (bd_s _ (i_rng h1 h2)).2.2.2.2.2.1
theorem k3kI_ (x : Int) : kI_ x = 536 + 7 * x.toNat + 5 := rfl
theorem k1kJ_ {x : Int} (h1 : 0 ≤ x) (h2 : x < 8) : kJ_ x < 612 := by show 536 + 7 * x.toNat + 6 < 612; omega
theorem k2kJ_ {x : Int} (h1 : 0 ≤ x) (h2 : x < 8) : kd0_ (kJ_ x) = (20, 80) := (bd_s _ (i_rng h1 h2)).2.2.2.2.2.2
theorem k3kJ_ (x : Int) : kJ_ x = 536 + 7 * x.toNat + 6 := rfl
theorem qr_C {x : Int} (h1 : 0 ≤ x) (h2 : x < 40) : gR_ SH0_ (kC_ x) 1 0 = some (kD_ x) := gR_ok (k1kC_ h1 h2) (congrArg Prod.fst (k2kC_ h1 h2)) rfl
theorem bqr_C {β' : Type} {x : Int} (h1 : 0 ≤ x) (h2 : x < 40) {f : _ → Option β'} : (gR_ SH0_ (kC_ x) 1 0).bind f = f (kD_ x) := congrArg (fun o => Option.bind o f) (qr_C h1 h2)
theorem qr_D {x : Int} (h1 : 0 ≤ x) (h2 : x < 40) : gR_ SH0_ (kD_ x) 10 0 = some (kE_ x) := gR_ok (k1kD_ h1 h2) (congrArg Prod.fst (k2kD_ h1 h2)) rfl
theorem bqr_D {β' : Type} {x : Int} (h1 : 0 ≤ x) (h2 : x < 40) {f : _ → Option β'} : (gR_ SH0_ (kD_ x) 10 0).bind f = f (kE_ x) := congrArg (fun o => Option.bind o f) (qr_D h1 h2)
theorem qr_N2 {x : Int} (h1 : 0 ≤ x) (h2 : x < 16) : gR_ SH0_ (kN_ x) 5 2 = some (kO_ x) := gR_ok (k1kN_ h1 h2) (congrArg Prod.fst (k2kN_ h1 h2)) rfl
theorem bqr_N2 {β' : Type} {x : Int} (h1 : 0 ≤ x) (h2 : x < 16) {f : _ → Option β'} : (gR_ SH0_ (kN_ x) 5 2).bind f = f (kO_ x) := congrArg (fun o => Option.bind o f) (qr_N2 h1 h2)
theorem qr_N3 {x : Int} (h1 : 0 ≤ x) (h2 : x < 16) : gR_ SH0_ (kN_ x) 5 3 = some (kQ_ x) := gR_ok (k1kN_ h1 h2) (congrArg Prod.fst (k2kN_ h1 h2)) rfl
theorem bqr_N3 {β' : Type} {x : Int} (h1 : 0 ≤ x) (h2 : x < 16) {f : _ → Option β'} : (gR_ SH0_ (kN_ x) 5 3).bind f = f (kQ_ x) := congrArg (fun o => Option.bind o f) (qr_N3 h1 h2)
theorem qr_O {x : Int} (h1 : 0 ≤ x) (h2 : x < 16) : gR_ SH0_ (kO_ x) 10 0 = some (kP_ x) := gR_ok (k1kO_ h1 h2) (congrArg Prod.fst (k2kO_ h1 h2)) rfl
theorem bqr_O {β' : Type} {x : Int} (h1 : 0 ≤ x) (h2 : x < 16) {f : _ → Option β'} : (gR_ SH0_ (kO_ x) 10 0).bind f = f (kP_ x) := congrArg (fun o => Option.bind o f) (qr_O h1 h2)
theorem qr_Q {x : Int} (h1 : 0 ≤ x) (h2 : x < 16) : gR_ SH0_ (kQ_ x) 10 0 = some (kR_ x) := gR_ok (k1kQ_ h1 h2) (congrArg Prod.fst (k2kQ_ h1 h2)) rfl
theorem bqr_Q {β' : Type} {x : Int} (h1 : 0 ≤ x) (h2 : x < 16) {f : _ → Option β'} : (gR_ SH0_ (kQ_ x) 10 0).bind f = f (kR_ x) := congrArg (fun o => Option.bind o f) (qr_Q h1 h2)
theorem qr_W {x : Int} (h1 : 0 ≤ x) (h2 : x < 10) : gR_ SH0_ (kW_ x) 10 0 = some (kX_ x) := gR_ok (k1kW_ h1 h2) (congrArg Prod.fst (k2kW_ h1 h2)) rfl
theorem bqr_W {β' : Type} {x : Int} (h1 : 0 ≤ x) (h2 : x < 10) {f : _ → Option β'} : (gR_ SH0_ (kW_ x) 10 0).bind f = f (kX_ x) := congrArg (fun o => Option.bind o f) (qr_W h1 h2)
theorem qr_S1 {x : Int} (h1 : 0 ≤ x) (h2 : x < 8) : gR_ SH0_ (kS_ x) 9 1 = some (kT_ x) := gR_ok (k1kS_ h1 h2) (congrArg Prod.fst (k2kS_ h1 h2)) rfl
theorem bqr_S1 {β' : Type} {x : Int} (h1 : 0 ≤ x) (h2 : x < 8) {f : _ → Option β'} : (gR_ SH0_ (kS_ x) 9 1).bind f = f (kT_ x) := congrArg (fun o => Option.bind o f) (qr_S1 h1 h2)
theorem qr_S4 {x : Int} (h1 : 0 ≤ x) (h2 : x < 8) : gR_ SH0_ (kS_ x) 9 4 = some (kJ_ x) := gR_ok (k1kS_ h1 h2) (congrArg Prod.fst (k2kS_ h1 h2)) rfl
theorem bqr_S4 {β' : Type} {x : Int} (h1 : 0 ≤ x) (h2 : x < 8) {f : _ → Option β'} : (gR_ SH0_ (kS_ x) 9 4).bind f = f (kJ_ x) := congrArg (fun o => Option.bind o f) (qr_S4 h1 h2)
theorem qr_T2 {x : Int} (h1 : 0 ≤ x) (h2 : x < 8) : gR_ SH0_ (kT_ x) 5 2 = some (kF_ x) := gR_ok (k1kT_ h1 h2) (congrArg Prod.fst (k2kT_ h1 h2)) rfl
theorem bqr_T2 {β' : Type} {x : Int} (h1 : 0 ≤ x) (h2 : x < 8) {f : _ → Option β'} : (gR_ SH0_ (kT_ x) 5 2).bind f = f (kF_ x) := congrArg (fun o => Option.bind o f) (qr_T2 h1 h2)
theorem qr_T3 {x : Int} (h1 : 0 ≤ x) (h2 : x < 8) : gR_ SH0_ (kT_ x) 5 3 = some (kH_ x) := gR_ok (k1kT_ h1 h2) (congrArg Prod.fst (k2kT_ h1 h2)) rfl
theorem bqr_T3 {β' : Type} {x : Int} (h1 : 0 ≤ x) (h2 : x < 8) {f : _ → Option β'} : (gR_ SH0_ (kT_ x) 5 3).bind f = f (kH_ x) := congrArg (fun o => Option.bind o f) (qr_T3 h1 h2)
theorem qr_F {x : Int} (h1 : 0 ≤ x) (h2 : x < 8) : gR_ SH0_ (kF_ x) 10 0 = some (kG_ x) := gR_ok (k1kF_ h1 h2) (congrArg Prod.fst (k2kF_ h1 h2)) rfl
theorem bqr_F {β' : Type} {x : Int} (h1 : 0 ≤ x) (h2 : x < 8) {f : _ → Option β'} : (gR_ SH0_ (kF_ x) 10 0).bind f = f (kG_ x) := congrArg (fun o => Option.bind o f) (qr_F h1 h2)
theorem qr_H {x : Int} (h1 : 0 ≤ x) (h2 : x < 8) : gR_ SH0_ (kH_ x) 10 0 = some (kI_ x) := gR_ok (k1kH_ h1 h2) (congrArg Prod.fst (k2kH_ h1 h2)) rfl
theorem bqr_H {β' : Type} {x : Int} (h1 : 0 ≤ x) (h2 : x < 8) {f : _ → Option β'} : (gR_ SH0_ (kH_ x) 10 0).bind f = f (kI_ x) := congrArg (fun o => Option.bind o f) (qr_H h1 h2)
theorem qa_C {x : Int} (h1 : 0 ≤ x) (h2 : x < 40) : aR_ SH0_ 5 22 x = some (kC_ x) := aR_ok (N := 40) (by decide) rfl h1 h2 (by show (if x.toNat < 40 then 5 + 6 + 3 * x.toNat + 2 else 0) = kC_ x + 2; rw [if_pos (by omega)]; rw [k3kC_])
theorem bqa_C {β' : Type} {x : Int} (h1 : 0 ≤ x) (h2 : x < 40) {f : _ → Option β'} : (aR_ SH0_ 5 22 x).bind f = f (kC_ x) := congrArg (fun o => Option.bind o f) (qa_C h1 h2)
theorem qa_N {x : Int} (h1 : 0 ≤ x) (h2 : x < 16) : aR_ SH0_ 6 23 x = some (kN_ x) := aR_ok (N := 16) (by decide) rfl h1 h2 (by show (if x.toNat < 16 then 6 + 125 + 5 * x.toNat + 2 else 0) = kN_ x + 2; rw [if_pos (by omega)]; rw [k3kN_])
theorem bqa_N {β' : Type} {x : Int} (h1 : 0 ≤ x) (h2 : x < 16) {f : _ → Option β'} : (aR_ SH0_ 6 23 x).bind f = f (kN_ x) := congrArg (fun o => Option.bind o f) (qa_N h1 h2)
theorem qa_U {x : Int} (h1 : 0 ≤ x) (h2 : x < 8) : aR_ SH0_ 7 24 x = some (kU_ x) := aR_ok (N := 8) (by decide) rfl h1 h2 (by show (if x.toNat < 8 then 7 + 204 + x.toNat + 2 else 0) = kU_ x + 2; rw [if_pos (by omega)]; rw [k3kU_])
theorem bqa_U {β' : Type} {x : Int} (h1 : 0 ≤ x) (h2 : x < 8) {f : _ → Option β'} : (aR_ SH0_ 7 24 x).bind f = f (kU_ x) := congrArg (fun o => Option.bind o f) (qa_U h1 h2)
theorem qa_Y {x : Int} (h1 : 0 ≤ x) (h2 : x < 20) : aR_ SH0_ 8 25 x = some (kY_ x) := aR_ok (N := 20) (by decide) rfl h1 h2 (by show (if x.toNat < 20 then 8 + 211 + x.toNat + 2 else 0) = kY_ x + 2; rw [if_pos (by omega)]; rw [k3kY_])
theorem bqa_Y {β' : Type} {x : Int} (h1 : 0 ≤ x) (h2 : x < 20) {f : _ → Option β'} : (aR_ SH0_ 8 25 x).bind f = f (kY_ x) := congrArg (fun o => Option.bind o f) (qa_Y h1 h2)
theorem qa_W {x : Int} (h1 : 0 ≤ x) (h2 : x < 10) : aR_ SH0_ 9 26 x = some (kW_ x) := aR_ok (N := 10) (by decide) rfl h1 h2 (by show (if x.toNat < 10 then 9 + 230 + 2 * x.toNat + 2 else 0) = kW_ x + 2; rw [if_pos (by omega)]; rw [k3kW_])
theorem bqa_W {β' : Type} {x : Int} (h1 : 0 ≤ x) (h2 : x < 10) {f : _ → Option β'} : (aR_ SH0_ 9 26 x).bind f = f (kW_ x) := congrArg (fun o => Option.bind o f) (qa_W h1 h2)
theorem qa_S {x : Int} (h1 : 0 ≤ x) (h2 : x < 8) : aR_ SH0_ 517 27 x = some (kS_ x) := aR_ok (N := 8) (by decide) rfl h1 h2 (by show (if x.toNat < 8 then 517 + 19 + 7 * x.toNat + 2 else 0) = kS_ x + 2; rw [if_pos (by omega)]; rw [k3kS_])
theorem bqa_S {β' : Type} {x : Int} (h1 : 0 ≤ x) (h2 : x < 8) {f : _ → Option β'} : (aR_ SH0_ 517 27 x).bind f = f (kS_ x) := congrArg (fun o => Option.bind o f) (qa_S h1 h2)
theorem qgkC_1 {M : Mem_m} {x : Int} (h1 : 0 ≤ x) (h2 : x < 40) : gI_ SH0_ M (kC_ x) 1 1 = some (M (kC_ x) 1) := gI_ok (k1kC_ h1 h2) (congrArg Prod.fst (k2kC_ h1 h2)) rfl
theorem bqgkC_1 {β' : Type} {M : Mem_m} {x : Int} (h1 : 0 ≤ x) (h2 : x < 40) {f : _ → Option β'} : (gI_ SH0_ M (kC_ x) 1 1).bind f = f (M (kC_ x) 1) := congrArg (fun o => Option.bind o f) (qgkC_1 h1 h2)
theorem qpkC_1 {M : Mem_m} {v : Int} {x : Int} (h1 : 0 ≤ x) (h2 : x < 40) : pI_ SH0_ M (kC_ x) 1 1 v = some (st_m M (kC_ x) 1 v) := pI_ok (k1kC_ h1 h2) (congrArg Prod.fst (k2kC_ h1 h2)) rfl
theorem bqpkC_1 {β' : Type} {M : Mem_m} {v : Int} {x : Int} (h1 : 0 ≤ x) (h2 : x < 40) {f : _ → Option β'} : (pI_ SH0_ M (kC_ x) 1 1 v).bind f = f (st_m M (kC_ x) 1 v) := congrArg (fun o => Option.bind o f) (qpkC_1 h1 h2)
theorem qgkC_2 {M : Mem_m} {x : Int} (h1 : 0 ≤ x) (h2 : x < 40) : gI_ SH0_ M (kC_ x) 1 2 = some (M (kC_ x) 2) := gI_ok (k1kC_ h1 h2) (congrArg Prod.fst (k2kC_ h1 h2)) rfl
theorem bqgkC_2 {β' : Type} {M : Mem_m} {x : Int} (h1 : 0 ≤ x) (h2 : x < 40) {f : _ → Option β'} : (gI_ SH0_ M (kC_ x) 1 2).bind f = f (M (kC_ x) 2) := congrArg (fun o => Option.bind o f) (qgkC_2 h1 h2)
theorem qpkC_2 {M : Mem_m} {v : Int} {x : Int} (h1 : 0 ≤ x) (h2 : x < 40) : pI_ SH0_ M (kC_ x) 1 2 v = some (st_m M (kC_ x) 2 v) := pI_ok (k1kC_ h1 h2) (congrArg Prod.fst (k2kC_ h1 h2)) rfl
theorem bqpkC_2 {β' : Type} {M : Mem_m} {v : Int} {x : Int} (h1 : 0 ≤ x) (h2 : x < 40) {f : _ → Option β'} : (pI_ SH0_ M (kC_ x) 1 2 v).bind f = f (st_m M (kC_ x) 2 v) := congrArg (fun o => Option.bind o f) (qpkC_2 h1 h2)
theorem qgkC_3 {M : Mem_m} {x : Int} (h1 : 0 ≤ x) (h2 : x < 40) : gI_ SH0_ M (kC_ x) 1 3 = some (M (kC_ x) 3) := gI_ok (k1kC_ h1 h2) (congrArg Prod.fst (k2kC_ h1 h2)) rfl
theorem bqgkC_3 {β' : Type} {M : Mem_m} {x : Int} (h1 : 0 ≤ x) (h2 : x < 40) {f : _ → Option β'} : (gI_ SH0_ M (kC_ x) 1 3).bind f = f (M (kC_ x) 3) := congrArg (fun o => Option.bind o f) (qgkC_3 h1 h2)
theorem qpkC_3 {M : Mem_m} {v : Int} {x : Int} (h1 : 0 ≤ x) (h2 : x < 40) : pI_ SH0_ M (kC_ x) 1 3 v = some (st_m M (kC_ x) 3 v) := pI_ok (k1kC_ h1 h2) (congrArg Prod.fst (k2kC_ h1 h2)) rfl
theorem bqpkC_3 {β' : Type} {M : Mem_m} {v : Int} {x : Int} (h1 : 0 ≤ x) (h2 : x < 40) {f : _ → Option β'} : (pI_ SH0_ M (kC_ x) 1 3 v).bind f = f (st_m M (kC_ x) 3 v) := congrArg (fun o => Option.bind o f) (qpkC_3 h1 h2)
theorem qgkC_4 {M : Mem_m} {x : Int} (h1 : 0 ≤ x) (h2 : x < 40) : gI_ SH0_ M (kC_ x) 1 4 = some (M (kC_ x) 4) := gI_ok (k1kC_ h1 h2) (congrArg Prod.fst (k2kC_ h1 h2)) rfl
theorem bqgkC_4 {β' : Type} {M : Mem_m} {x : Int} (h1 : 0 ≤ x) (h2 : x < 40) {f : _ → Option β'} : (gI_ SH0_ M (kC_ x) 1 4).bind f = f (M (kC_ x) 4) := congrArg (fun o => Option.bind o f) (qgkC_4 h1 h2)
theorem qpkC_4 {M : Mem_m} {v : Int} {x : Int} (h1 : 0 ≤ x) (h2 : x < 40) : pI_ SH0_ M (kC_ x) 1 4 v = some (st_m M (kC_ x) 4 v) := pI_ok (k1kC_ h1 h2) (congrArg Prod.fst (k2kC_ h1 h2)) rfl
theorem bqpkC_4 {β' : Type} {M : Mem_m} {v : Int} {x : Int} (h1 : 0 ≤ x) (h2 : x < 40) {f : _ → Option β'} : (pI_ SH0_ M (kC_ x) 1 4 v).bind f = f (st_m M (kC_ x) 4 v) := congrArg (fun o => Option.bind o f) (qpkC_4 h1 h2)
theorem qgkC_5 {M : Mem_m} {x : Int} (h1 : 0 ≤ x) (h2 : x < 40) : gI_ SH0_ M (kC_ x) 1 5 = some (M (kC_ x) 5) := gI_ok (k1kC_ h1 h2) (congrArg Prod.fst (k2kC_ h1 h2)) rfl
theorem bqgkC_5 {β' : Type} {M : Mem_m} {x : Int} (h1 : 0 ≤ x) (h2 : x < 40) {f : _ → Option β'} : (gI_ SH0_ M (kC_ x) 1 5).bind f = f (M (kC_ x) 5) := congrArg (fun o => Option.bind o f) (qgkC_5 h1 h2)
theorem qpkC_5 {M : Mem_m} {v : Int} {x : Int} (h1 : 0 ≤ x) (h2 : x < 40) (hv : v = 0 ∨ v = 1) : pZ_ SH0_ M (kC_ x) 1 5 v = some (st_m M (kC_ x) 5 v) := pZ_ok (k1kC_ h1 h2) (congrArg Prod.fst (k2kC_ h1 h2)) rfl hv
theorem bqpkC_5 {β' : Type} {M : Mem_m} {v : Int} {x : Int} (h1 : 0 ≤ x) (h2 : x < 40) (hv : v = 0 ∨ v = 1) {f : _ → Option β'} : (pZ_ SH0_ M (kC_ x) 1 5 v).bind f = f (st_m M (kC_ x) 5 v) := congrArg (fun o => Option.bind o f) (qpkC_5 h1 h2 hv)
theorem qgkC_6 {M : Mem_m} {x : Int} (h1 : 0 ≤ x) (h2 : x < 40) : gI_ SH0_ M (kC_ x) 1 6 = some (M (kC_ x) 6) := gI_ok (k1kC_ h1 h2) (congrArg Prod.fst (k2kC_ h1 h2)) rfl
theorem bqgkC_6 {β' : Type} {M : Mem_m} {x : Int} (h1 : 0 ≤ x) (h2 : x < 40) {f : _ → Option β'} : (gI_ SH0_ M (kC_ x) 1 6).bind f = f (M (kC_ x) 6) := congrArg (fun o => Option.bind o f) (qgkC_6 h1 h2)
theorem qpkC_6 {M : Mem_m} {v : Int} {x : Int} (h1 : 0 ≤ x) (h2 : x < 40) : pI_ SH0_ M (kC_ x) 1 6 v = some (st_m M (kC_ x) 6 v) := pI_ok (k1kC_ h1 h2) (congrArg Prod.fst (k2kC_ h1 h2)) rfl
theorem bqpkC_6 {β' : Type} {M : Mem_m} {v : Int} {x : Int} (h1 : 0 ≤ x) (h2 : x < 40) {f : _ → Option β'} : (pI_ SH0_ M (kC_ x) 1 6 v).bind f = f (st_m M (kC_ x) 6 v) := congrArg (fun o => Option.bind o f) (qpkC_6 h1 h2)
theorem qgkD_1 {M : Mem_m} {x : Int} (h1 : 0 ≤ x) (h2 : x < 40) : gI_ SH0_ M (kD_ x) 10 1 = some (M (kD_ x) 1) := gI_ok (k1kD_ h1 h2) (congrArg Prod.fst (k2kD_ h1 h2)) rfl
theorem bqgkD_1 {β' : Type} {M : Mem_m} {x : Int} (h1 : 0 ≤ x) (h2 : x < 40) {f : _ → Option β'} : (gI_ SH0_ M (kD_ x) 10 1).bind f = f (M (kD_ x) 1) := congrArg (fun o => Option.bind o f) (qgkD_1 h1 h2)
theorem qpkD_1 {M : Mem_m} {v : Int} {x : Int} (h1 : 0 ≤ x) (h2 : x < 40) : pI_ SH0_ M (kD_ x) 10 1 v = some (st_m M (kD_ x) 1 v) := pI_ok (k1kD_ h1 h2) (congrArg Prod.fst (k2kD_ h1 h2)) rfl
theorem bqpkD_1 {β' : Type} {M : Mem_m} {v : Int} {x : Int} (h1 : 0 ≤ x) (h2 : x < 40) {f : _ → Option β'} : (pI_ SH0_ M (kD_ x) 10 1 v).bind f = f (st_m M (kD_ x) 1 v) := congrArg (fun o => Option.bind o f) (qpkD_1 h1 h2)
theorem qgkN_0 {M : Mem_m} {x : Int} (h1 : 0 ≤ x) (h2 : x < 16) : gI_ SH0_ M (kN_ x) 5 0 = some (M (kN_ x) 0) := gI_ok (k1kN_ h1 h2) (congrArg Prod.fst (k2kN_ h1 h2)) rfl
theorem bqgkN_0 {β' : Type} {M : Mem_m} {x : Int} (h1 : 0 ≤ x) (h2 : x < 16) {f : _ → Option β'} : (gI_ SH0_ M (kN_ x) 5 0).bind f = f (M (kN_ x) 0) := congrArg (fun o => Option.bind o f) (qgkN_0 h1 h2)
theorem qpkN_0 {M : Mem_m} {v : Int} {x : Int} (h1 : 0 ≤ x) (h2 : x < 16) : pI_ SH0_ M (kN_ x) 5 0 v = some (st_m M (kN_ x) 0 v) := pI_ok (k1kN_ h1 h2) (congrArg Prod.fst (k2kN_ h1 h2)) rfl
theorem bqpkN_0 {β' : Type} {M : Mem_m} {v : Int} {x : Int} (h1 : 0 ≤ x) (h2 : x < 16) {f : _ → Option β'} : (pI_ SH0_ M (kN_ x) 5 0 v).bind f = f (st_m M (kN_ x) 0 v) := congrArg (fun o => Option.bind o f) (qpkN_0 h1 h2)
theorem qgkN_1 {M : Mem_m} {x : Int} (h1 : 0 ≤ x) (h2 : x < 16) : gI_ SH0_ M (kN_ x) 5 1 = some (M (kN_ x) 1) := gI_ok (k1kN_ h1 h2) (congrArg Prod.fst (k2kN_ h1 h2)) rfl
theorem bqgkN_1 {β' : Type} {M : Mem_m} {x : Int} (h1 : 0 ≤ x) (h2 : x < 16) {f : _ → Option β'} : (gI_ SH0_ M (kN_ x) 5 1).bind f = f (M (kN_ x) 1) := congrArg (fun o => Option.bind o f) (qgkN_1 h1 h2)
theorem qpkN_1 {M : Mem_m} {v : Int} {x : Int} (h1 : 0 ≤ x) (h2 : x < 16) : pI_ SH0_ M (kN_ x) 5 1 v = some (st_m M (kN_ x) 1 v) := pI_ok (k1kN_ h1 h2) (congrArg Prod.fst (k2kN_ h1 h2)) rfl
theorem bqpkN_1 {β' : Type} {M : Mem_m} {v : Int} {x : Int} (h1 : 0 ≤ x) (h2 : x < 16) {f : _ → Option β'} : (pI_ SH0_ M (kN_ x) 5 1 v).bind f = f (st_m M (kN_ x) 1 v) := congrArg (fun o => Option.bind o f) (qpkN_1 h1 h2)
theorem qgkO_1 {M : Mem_m} {x : Int} (h1 : 0 ≤ x) (h2 : x < 16) : gI_ SH0_ M (kO_ x) 10 1 = some (M (kO_ x) 1) := gI_ok (k1kO_ h1 h2) (congrArg Prod.fst (k2kO_ h1 h2)) rfl
theorem bqgkO_1 {β' : Type} {M : Mem_m} {x : Int} (h1 : 0 ≤ x) (h2 : x < 16) {f : _ → Option β'} : (gI_ SH0_ M (kO_ x) 10 1).bind f = f (M (kO_ x) 1) := congrArg (fun o => Option.bind o f) (qgkO_1 h1 h2)
theorem qpkO_1 {M : Mem_m} {v : Int} {x : Int} (h1 : 0 ≤ x) (h2 : x < 16) : pI_ SH0_ M (kO_ x) 10 1 v = some (st_m M (kO_ x) 1 v) := pI_ok (k1kO_ h1 h2) (congrArg Prod.fst (k2kO_ h1 h2)) rfl
theorem bqpkO_1 {β' : Type} {M : Mem_m} {v : Int} {x : Int} (h1 : 0 ≤ x) (h2 : x < 16) {f : _ → Option β'} : (pI_ SH0_ M (kO_ x) 10 1 v).bind f = f (st_m M (kO_ x) 1 v) := congrArg (fun o => Option.bind o f) (qpkO_1 h1 h2)
theorem qgkQ_1 {M : Mem_m} {x : Int} (h1 : 0 ≤ x) (h2 : x < 16) : gI_ SH0_ M (kQ_ x) 10 1 = some (M (kQ_ x) 1) := gI_ok (k1kQ_ h1 h2) (congrArg Prod.fst (k2kQ_ h1 h2)) rfl
theorem bqgkQ_1 {β' : Type} {M : Mem_m} {x : Int} (h1 : 0 ≤ x) (h2 : x < 16) {f : _ → Option β'} : (gI_ SH0_ M (kQ_ x) 10 1).bind f = f (M (kQ_ x) 1) := congrArg (fun o => Option.bind o f) (qgkQ_1 h1 h2)
theorem qpkQ_1 {M : Mem_m} {v : Int} {x : Int} (h1 : 0 ≤ x) (h2 : x < 16) : pI_ SH0_ M (kQ_ x) 10 1 v = some (st_m M (kQ_ x) 1 v) := pI_ok (k1kQ_ h1 h2) (congrArg Prod.fst (k2kQ_ h1 h2)) rfl
theorem bqpkQ_1 {β' : Type} {M : Mem_m} {v : Int} {x : Int} (h1 : 0 ≤ x) (h2 : x < 16) {f : _ → Option β'} : (pI_ SH0_ M (kQ_ x) 10 1 v).bind f = f (st_m M (kQ_ x) 1 v) := congrArg (fun o => Option.bind o f) (qpkQ_1 h1 h2)
theorem qgkW_1 {M : Mem_m} {x : Int} (h1 : 0 ≤ x) (h2 : x < 10) : gI_ SH0_ M (kW_ x) 10 1 = some (M (kW_ x) 1) := gI_ok (k1kW_ h1 h2) (congrArg Prod.fst (k2kW_ h1 h2)) rfl
theorem bqgkW_1 {β' : Type} {M : Mem_m} {x : Int} (h1 : 0 ≤ x) (h2 : x < 10) {f : _ → Option β'} : (gI_ SH0_ M (kW_ x) 10 1).bind f = f (M (kW_ x) 1) := congrArg (fun o => Option.bind o f) (qgkW_1 h1 h2)
theorem qpkW_1 {M : Mem_m} {v : Int} {x : Int} (h1 : 0 ≤ x) (h2 : x < 10) : pI_ SH0_ M (kW_ x) 10 1 v = some (st_m M (kW_ x) 1 v) := pI_ok (k1kW_ h1 h2) (congrArg Prod.fst (k2kW_ h1 h2)) rfl
theorem bqpkW_1 {β' : Type} {M : Mem_m} {v : Int} {x : Int} (h1 : 0 ≤ x) (h2 : x < 10) {f : _ → Option β'} : (pI_ SH0_ M (kW_ x) 10 1 v).bind f = f (st_m M (kW_ x) 1 v) := congrArg (fun o => Option.bind o f) (qpkW_1 h1 h2)
theorem qgkS_0 {M : Mem_m} {x : Int} (h1 : 0 ≤ x) (h2 : x < 8) : gI_ SH0_ M (kS_ x) 9 0 = some (M (kS_ x) 0) := gI_ok (k1kS_ h1 h2) (congrArg Prod.fst (k2kS_ h1 h2)) rfl
theorem bqgkS_0 {β' : Type} {M : Mem_m} {x : Int} (h1 : 0 ≤ x) (h2 : x < 8) {f : _ → Option β'} : (gI_ SH0_ M (kS_ x) 9 0).bind f = f (M (kS_ x) 0) := congrArg (fun o => Option.bind o f) (qgkS_0 h1 h2)
theorem qpkS_0 {M : Mem_m} {v : Int} {x : Int} (h1 : 0 ≤ x) (h2 : x < 8) : pI_ SH0_ M (kS_ x) 9 0 v = some (st_m M (kS_ x) 0 v) := pI_ok (k1kS_ h1 h2) (congrArg Prod.fst (k2kS_ h1 h2)) rfl
theorem bqpkS_0 {β' : Type} {M : Mem_m} {v : Int} {x : Int} (h1 : 0 ≤ x) (h2 : x < 8) {f : _ → Option β'} : (pI_ SH0_ M (kS_ x) 9 0 v).bind f = f (st_m M (kS_ x) 0 v) := congrArg (fun o => Option.bind o f) (qpkS_0 h1 h2)
theorem qgkS_2 {M : Mem_m} {x : Int} (h1 : 0 ≤ x) (h2 : x < 8) : gI_ SH0_ M (kS_ x) 9 2 = some (M (kS_ x) 2) := gI_ok (k1kS_ h1 h2) (congrArg Prod.fst (k2kS_ h1 h2)) rfl
theorem bqgkS_2 {β' : Type} {M : Mem_m} {x : Int} (h1 : 0 ≤ x) (h2 : x < 8) {f : _ → Option β'} : (gI_ SH0_ M (kS_ x) 9 2).bind f = f (M (kS_ x) 2) := congrArg (fun o => Option.bind o f) (qgkS_2 h1 h2)
theorem qpkS_2 {M : Mem_m} {v : Int} {x : Int} (h1 : 0 ≤ x) (h2 : x < 8) : pI_ SH0_ M (kS_ x) 9 2 v = some (st_m M (kS_ x) 2 v) := pI_ok (k1kS_ h1 h2) (congrArg Prod.fst (k2kS_ h1 h2)) rfl
theorem bqpkS_2 {β' : Type} {M : Mem_m} {v : Int} {x : Int} (h1 : 0 ≤ x) (h2 : x < 8) {f : _ → Option β'} : (pI_ SH0_ M (kS_ x) 9 2 v).bind f = f (st_m M (kS_ x) 2 v) := congrArg (fun o => Option.bind o f) (qpkS_2 h1 h2)
theorem qgkS_3 {M : Mem_m} {x : Int} (h1 : 0 ≤ x) (h2 : x < 8) : gI_ SH0_ M (kS_ x) 9 3 = some (M (kS_ x) 3) := gI_ok (k1kS_ h1 h2) (congrArg Prod.fst (k2kS_ h1 h2)) rfl
theorem bqgkS_3 {β' : Type} {M : Mem_m} {x : Int} (h1 : 0 ≤ x) (h2 : x < 8) {f : _ → Option β'} : (gI_ SH0_ M (kS_ x) 9 3).bind f = f (M (kS_ x) 3) := congrArg (fun o => Option.bind o f) (qgkS_3 h1 h2)
theorem qpkS_3 {M : Mem_m} {v : Int} {x : Int} (h1 : 0 ≤ x) (h2 : x < 8) : pI_ SH0_ M (kS_ x) 9 3 v = some (st_m M (kS_ x) 3 v) := pI_ok (k1kS_ h1 h2) (congrArg Prod.fst (k2kS_ h1 h2)) rfl
theorem bqpkS_3 {β' : Type} {M : Mem_m} {v : Int} {x : Int} (h1 : 0 ≤ x) (h2 : x < 8) {f : _ → Option β'} : (pI_ SH0_ M (kS_ x) 9 3 v).bind f = f (st_m M (kS_ x) 3 v) := congrArg (fun o => Option.bind o f) (qpkS_3 h1 h2)
theorem qgkT_0 {M : Mem_m} {x : Int} (h1 : 0 ≤ x) (h2 : x < 8) : gI_ SH0_ M (kT_ x) 5 0 = some (M (kT_ x) 0) := gI_ok (k1kT_ h1 h2) (congrArg Prod.fst (k2kT_ h1 h2)) rfl
theorem bqgkT_0 {β' : Type} {M : Mem_m} {x : Int} (h1 : 0 ≤ x) (h2 : x < 8) {f : _ → Option β'} : (gI_ SH0_ M (kT_ x) 5 0).bind f = f (M (kT_ x) 0) := congrArg (fun o => Option.bind o f) (qgkT_0 h1 h2)
theorem qpkT_0 {M : Mem_m} {v : Int} {x : Int} (h1 : 0 ≤ x) (h2 : x < 8) : pI_ SH0_ M (kT_ x) 5 0 v = some (st_m M (kT_ x) 0 v) := pI_ok (k1kT_ h1 h2) (congrArg Prod.fst (k2kT_ h1 h2)) rfl
theorem bqpkT_0 {β' : Type} {M : Mem_m} {v : Int} {x : Int} (h1 : 0 ≤ x) (h2 : x < 8) {f : _ → Option β'} : (pI_ SH0_ M (kT_ x) 5 0 v).bind f = f (st_m M (kT_ x) 0 v) := congrArg (fun o => Option.bind o f) (qpkT_0 h1 h2)
theorem qgkT_1 {M : Mem_m} {x : Int} (h1 : 0 ≤ x) (h2 : x < 8) : gI_ SH0_ M (kT_ x) 5 1 = some (M (kT_ x) 1) := gI_ok (k1kT_ h1 h2) (congrArg Prod.fst (k2kT_ h1 h2)) rfl
theorem bqgkT_1 {β' : Type} {M : Mem_m} {x : Int} (h1 : 0 ≤ x) (h2 : x < 8) {f : _ → Option β'} : (gI_ SH0_ M (kT_ x) 5 1).bind f = f (M (kT_ x) 1) := congrArg (fun o => Option.bind o f) (qgkT_1 h1 h2)
theorem qpkT_1 {M : Mem_m} {v : Int} {x : Int} (h1 : 0 ≤ x) (h2 : x < 8) : pI_ SH0_ M (kT_ x) 5 1 v = some (st_m M (kT_ x) 1 v) := pI_ok (k1kT_ h1 h2) (congrArg Prod.fst (k2kT_ h1 h2)) rfl
theorem bqpkT_1 {β' : Type} {M : Mem_m} {v : Int} {x : Int} (h1 : 0 ≤ x) (h2 : x < 8) {f : _ → Option β'} : (pI_ SH0_ M (kT_ x) 5 1 v).bind f = f (st_m M (kT_ x) 1 v) := congrArg (fun o => Option.bind o f) (qpkT_1 h1 h2)
theorem qgkF_1 {M : Mem_m} {x : Int} (h1 : 0 ≤ x) (h2 : x < 8) : gI_ SH0_ M (kF_ x) 10 1 = some (M (kF_ x) 1) := gI_ok (k1kF_ h1 h2) (congrArg Prod.fst (k2kF_ h1 h2)) rfl
theorem bqgkF_1 {β' : Type} {M : Mem_m} {x : Int} (h1 : 0 ≤ x) (h2 : x < 8) {f : _ → Option β'} : (gI_ SH0_ M (kF_ x) 10 1).bind f = f (M (kF_ x) 1) := congrArg (fun o => Option.bind o f) (qgkF_1 h1 h2)
theorem qpkF_1 {M : Mem_m} {v : Int} {x : Int} (h1 : 0 ≤ x) (h2 : x < 8) : pI_ SH0_ M (kF_ x) 10 1 v = some (st_m M (kF_ x) 1 v) := pI_ok (k1kF_ h1 h2) (congrArg Prod.fst (k2kF_ h1 h2)) rfl
theorem bqpkF_1 {β' : Type} {M : Mem_m} {v : Int} {x : Int} (h1 : 0 ≤ x) (h2 : x < 8) {f : _ → Option β'} : (pI_ SH0_ M (kF_ x) 10 1 v).bind f = f (st_m M (kF_ x) 1 v) := congrArg (fun o => Option.bind o f) (qpkF_1 h1 h2)
theorem qgkH_1 {M : Mem_m} {x : Int} (h1 : 0 ≤ x) (h2 : x < 8) : gI_ SH0_ M (kH_ x) 10 1 = some (M (kH_ x) 1) := gI_ok (k1kH_ h1 h2) (congrArg Prod.fst (k2kH_ h1 h2)) rfl
theorem bqgkH_1 {β' : Type} {M : Mem_m} {x : Int} (h1 : 0 ≤ x) (h2 : x < 8) {f : _ → Option β'} : (gI_ SH0_ M (kH_ x) 10 1).bind f = f (M (kH_ x) 1) := congrArg (fun o => Option.bind o f) (qgkH_1 h1 h2)
theorem qpkH_1 {M : Mem_m} {v : Int} {x : Int} (h1 : 0 ≤ x) (h2 : x < 8) : pI_ SH0_ M (kH_ x) 10 1 v = some (st_m M (kH_ x) 1 v) := pI_ok (k1kH_ h1 h2) (congrArg Prod.fst (k2kH_ h1 h2)) rfl
theorem bqpkH_1 {β' : Type} {M : Mem_m} {v : Int} {x : Int} (h1 : 0 ≤ x) (h2 : x < 8) {f : _ → Option β'} : (pI_ SH0_ M (kH_ x) 10 1 v).bind f = f (st_m M (kH_ x) 1 v) := congrArg (fun o => Option.bind o f) (qpkH_1 h1 h2)
theorem qgkU_0 {M : Mem_m} {x : Int} (h1 : 0 ≤ x) (h2 : x < 8) : gI_ SH0_ M (kU_ x) 7 0 = some (M (kU_ x) 0) := gI_ok (k1kU_ h1 h2) (congrArg Prod.fst (k2kU_ h1 h2)) rfl
theorem bqgkU_0 {β' : Type} {M : Mem_m} {x : Int} (h1 : 0 ≤ x) (h2 : x < 8) {f : _ → Option β'} : (gI_ SH0_ M (kU_ x) 7 0).bind f = f (M (kU_ x) 0) := congrArg (fun o => Option.bind o f) (qgkU_0 h1 h2)
theorem qpkU_0 {M : Mem_m} {v : Int} {x : Int} (h1 : 0 ≤ x) (h2 : x < 8) : pI_ SH0_ M (kU_ x) 7 0 v = some (st_m M (kU_ x) 0 v) := pI_ok (k1kU_ h1 h2) (congrArg Prod.fst (k2kU_ h1 h2)) rfl
theorem bqpkU_0 {β' : Type} {M : Mem_m} {v : Int} {x : Int} (h1 : 0 ≤ x) (h2 : x < 8) {f : _ → Option β'} : (pI_ SH0_ M (kU_ x) 7 0 v).bind f = f (st_m M (kU_ x) 0 v) := congrArg (fun o => Option.bind o f) (qpkU_0 h1 h2)
theorem qgkU_1 {M : Mem_m} {x : Int} (h1 : 0 ≤ x) (h2 : x < 8) : gI_ SH0_ M (kU_ x) 7 1 = some (M (kU_ x) 1) := gI_ok (k1kU_ h1 h2) (congrArg Prod.fst (k2kU_ h1 h2)) rfl
theorem bqgkU_1 {β' : Type} {M : Mem_m} {x : Int} (h1 : 0 ≤ x) (h2 : x < 8) {f : _ → Option β'} : (gI_ SH0_ M (kU_ x) 7 1).bind f = f (M (kU_ x) 1) := congrArg (fun o => Option.bind o f) (qgkU_1 h1 h2)
theorem qpkU_1 {M : Mem_m} {v : Int} {x : Int} (h1 : 0 ≤ x) (h2 : x < 8) : pI_ SH0_ M (kU_ x) 7 1 v = some (st_m M (kU_ x) 1 v) := pI_ok (k1kU_ h1 h2) (congrArg Prod.fst (k2kU_ h1 h2)) rfl
theorem bqpkU_1 {β' : Type} {M : Mem_m} {v : Int} {x : Int} (h1 : 0 ≤ x) (h2 : x < 8) {f : _ → Option β'} : (pI_ SH0_ M (kU_ x) 7 1 v).bind f = f (st_m M (kU_ x) 1 v) := congrArg (fun o => Option.bind o f) (qpkU_1 h1 h2)
theorem qgkU_2 {M : Mem_m} {x : Int} (h1 : 0 ≤ x) (h2 : x < 8) : gI_ SH0_ M (kU_ x) 7 2 = some (M (kU_ x) 2) := gI_ok (k1kU_ h1 h2) (congrArg Prod.fst (k2kU_ h1 h2)) rfl
theorem bqgkU_2 {β' : Type} {M : Mem_m} {x : Int} (h1 : 0 ≤ x) (h2 : x < 8) {f : _ → Option β'} : (gI_ SH0_ M (kU_ x) 7 2).bind f = f (M (kU_ x) 2) := congrArg (fun o => Option.bind o f) (qgkU_2 h1 h2)
theorem qpkU_2 {M : Mem_m} {v : Int} {x : Int} (h1 : 0 ≤ x) (h2 : x < 8) : pI_ SH0_ M (kU_ x) 7 2 v = some (st_m M (kU_ x) 2 v) := pI_ok (k1kU_ h1 h2) (congrArg Prod.fst (k2kU_ h1 h2)) rfl
theorem bqpkU_2 {β' : Type} {M : Mem_m} {v : Int} {x : Int} (h1 : 0 ≤ x) (h2 : x < 8) {f : _ → Option β'} : (pI_ SH0_ M (kU_ x) 7 2 v).bind f = f (st_m M (kU_ x) 2 v) := congrArg (fun o => Option.bind o f) (qpkU_2 h1 h2)
theorem qgkU_3 {M : Mem_m} {x : Int} (h1 : 0 ≤ x) (h2 : x < 8) : gI_ SH0_ M (kU_ x) 7 3 = some (M (kU_ x) 3) := gI_ok (k1kU_ h1 h2) (congrArg Prod.fst (k2kU_ h1 h2)) rfl
theorem bqgkU_3 {β' : Type} {M : Mem_m} {x : Int} (h1 : 0 ≤ x) (h2 : x < 8) {f : _ → Option β'} : (gI_ SH0_ M (kU_ x) 7 3).bind f = f (M (kU_ x) 3) := congrArg (fun o => Option.bind o f) (qgkU_3 h1 h2)
theorem qpkU_3 {M : Mem_m} {v : Int} {x : Int} (h1 : 0 ≤ x) (h2 : x < 8) : pI_ SH0_ M (kU_ x) 7 3 v = some (st_m M (kU_ x) 3 v) := pI_ok (k1kU_ h1 h2) (congrArg Prod.fst (k2kU_ h1 h2)) rfl
theorem bqpkU_3 {β' : Type} {M : Mem_m} {v : Int} {x : Int} (h1 : 0 ≤ x) (h2 : x < 8) {f : _ → Option β'} : (pI_ SH0_ M (kU_ x) 7 3 v).bind f = f (st_m M (kU_ x) 3 v) := congrArg (fun o => Option.bind o f) (qpkU_3 h1 h2)
theorem qgkU_4 {M : Mem_m} {x : Int} (h1 : 0 ≤ x) (h2 : x < 8) : gI_ SH0_ M (kU_ x) 7 4 = some (M (kU_ x) 4) := gI_ok (k1kU_ h1 h2) (congrArg Prod.fst (k2kU_ h1 h2)) rfl
theorem bqgkU_4 {β' : Type} {M : Mem_m} {x : Int} (h1 : 0 ≤ x) (h2 : x < 8) {f : _ → Option β'} : (gI_ SH0_ M (kU_ x) 7 4).bind f = f (M (kU_ x) 4) := congrArg (fun o => Option.bind o f) (qgkU_4 h1 h2)
theorem qpkU_4 {M : Mem_m} {v : Int} {x : Int} (h1 : 0 ≤ x) (h2 : x < 8) : pI_ SH0_ M (kU_ x) 7 4 v = some (st_m M (kU_ x) 4 v) := pI_ok (k1kU_ h1 h2) (congrArg Prod.fst (k2kU_ h1 h2)) rfl
theorem bqpkU_4 {β' : Type} {M : Mem_m} {v : Int} {x : Int} (h1 : 0 ≤ x) (h2 : x < 8) {f : _ → Option β'} : (pI_ SH0_ M (kU_ x) 7 4 v).bind f = f (st_m M (kU_ x) 4 v) := congrArg (fun o => Option.bind o f) (qpkU_4 h1 h2)
theorem qgkY_0 {M : Mem_m} {x : Int} (h1 : 0 ≤ x) (h2 : x < 20) : gI_ SH0_ M (kY_ x) 8 0 = some (M (kY_ x) 0) := gI_ok (k1kY_ h1 h2) (congrArg Prod.fst (k2kY_ h1 h2)) rfl
theorem bqgkY_0 {β' : Type} {M : Mem_m} {x : Int} (h1 : 0 ≤ x) (h2 : x < 20) {f : _ → Option β'} : (gI_ SH0_ M (kY_ x) 8 0).bind f = f (M (kY_ x) 0) := congrArg (fun o => Option.bind o f) (qgkY_0 h1 h2)
theorem qpkY_0 {M : Mem_m} {v : Int} {x : Int} (h1 : 0 ≤ x) (h2 : x < 20) : pI_ SH0_ M (kY_ x) 8 0 v = some (st_m M (kY_ x) 0 v) := pI_ok (k1kY_ h1 h2) (congrArg Prod.fst (k2kY_ h1 h2)) rfl
theorem bqpkY_0 {β' : Type} {M : Mem_m} {v : Int} {x : Int} (h1 : 0 ≤ x) (h2 : x < 20) {f : _ → Option β'} : (pI_ SH0_ M (kY_ x) 8 0 v).bind f = f (st_m M (kY_ x) 0 v) := congrArg (fun o => Option.bind o f) (qpkY_0 h1 h2)
theorem qgkY_1 {M : Mem_m} {x : Int} (h1 : 0 ≤ x) (h2 : x < 20) : gI_ SH0_ M (kY_ x) 8 1 = some (M (kY_ x) 1) := gI_ok (k1kY_ h1 h2) (congrArg Prod.fst (k2kY_ h1 h2)) rfl
theorem bqgkY_1 {β' : Type} {M : Mem_m} {x : Int} (h1 : 0 ≤ x) (h2 : x < 20) {f : _ → Option β'} : (gI_ SH0_ M (kY_ x) 8 1).bind f = f (M (kY_ x) 1) := congrArg (fun o => Option.bind o f) (qgkY_1 h1 h2)
theorem qpkY_1 {M : Mem_m} {v : Int} {x : Int} (h1 : 0 ≤ x) (h2 : x < 20) : pI_ SH0_ M (kY_ x) 8 1 v = some (st_m M (kY_ x) 1 v) := pI_ok (k1kY_ h1 h2) (congrArg Prod.fst (k2kY_ h1 h2)) rfl
theorem bqpkY_1 {β' : Type} {M : Mem_m} {v : Int} {x : Int} (h1 : 0 ≤ x) (h2 : x < 20) {f : _ → Option β'} : (pI_ SH0_ M (kY_ x) 8 1 v).bind f = f (st_m M (kY_ x) 1 v) := congrArg (fun o => Option.bind o f) (qpkY_1 h1 h2)
theorem qgkY_2 {M : Mem_m} {x : Int} (h1 : 0 ≤ x) (h2 : x < 20) : gI_ SH0_ M (kY_ x) 8 2 = some (M (kY_ x) 2) := gI_ok (k1kY_ h1 h2) (congrArg Prod.fst (k2kY_ h1 h2)) rfl
theorem bqgkY_2 {β' : Type} {M : Mem_m} {x : Int} (h1 : 0 ≤ x) (h2 : x < 20) {f : _ → Option β'} : (gI_ SH0_ M (kY_ x) 8 2).bind f = f (M (kY_ x) 2) := congrArg (fun o => Option.bind o f) (qgkY_2 h1 h2)
theorem qpkY_2 {M : Mem_m} {v : Int} {x : Int} (h1 : 0 ≤ x) (h2 : x < 20) : pI_ SH0_ M (kY_ x) 8 2 v = some (st_m M (kY_ x) 2 v) := pI_ok (k1kY_ h1 h2) (congrArg Prod.fst (k2kY_ h1 h2)) rfl
theorem bqpkY_2 {β' : Type} {M : Mem_m} {v : Int} {x : Int} (h1 : 0 ≤ x) (h2 : x < 20) {f : _ → Option β'} : (pI_ SH0_ M (kY_ x) 8 2 v).bind f = f (st_m M (kY_ x) 2 v) := congrArg (fun o => Option.bind o f) (qpkY_2 h1 h2)
theorem qikE_ {M : Mem_m} {i : Int} {x : Int} (h1 : 0 ≤ x) (h2 : x < 40) (h3 : 0 ≤ i) (h4 : i < 8) : aI_ SH0_ M (kE_ x) i = some (M (kE_ x) i.toNat) := aI_ok (N := 8) (k1kE_ h1 h2) (k2kE_ h1 h2) h3 h4
theorem bqikE_ {β' : Type} {M : Mem_m} {i : Int} {x : Int} (h1 : 0 ≤ x) (h2 : x < 40) (h3 : 0 ≤ i) (h4 : i < 8) {f : _ → Option β'} : (aI_ SH0_ M (kE_ x) i).bind f = f (M (kE_ x) i.toNat) := congrArg (fun o => Option.bind o f) (qikE_ h1 h2 h3 h4)
theorem qskE_ {M : Mem_m} {i v : Int} {x : Int} (h1 : 0 ≤ x) (h2 : x < 40) (h3 : 0 ≤ i) (h4 : i < 8) : sI_ SH0_ M (kE_ x) i v = some (st_m M (kE_ x) i.toNat v) := sI_ok (N := 8) (k1kE_ h1 h2) (k2kE_ h1 h2) h3 h4
theorem bqskE_ {β' : Type} {M : Mem_m} {i v : Int} {x : Int} (h1 : 0 ≤ x) (h2 : x < 40) (h3 : 0 ≤ i) (h4 : i < 8) {f : _ → Option β'} : (sI_ SH0_ M (kE_ x) i v).bind f = f (st_m M (kE_ x) i.toNat v) := congrArg (fun o => Option.bind o f) (qskE_ h1 h2 h3 h4)
theorem qikP_ {M : Mem_m} {i : Int} {x : Int} (h1 : 0 ≤ x) (h2 : x < 16) (h3 : 0 ≤ i) (h4 : i < 8) : aI_ SH0_ M (kP_ x) i = some (M (kP_ x) i.toNat) := aI_ok (N := 8) (k1kP_ h1 h2) (k2kP_ h1 h2) h3 h4
theorem bqikP_ {β' : Type} {M : Mem_m} {i : Int} {x : Int} (h1 : 0 ≤ x) (h2 : x < 16) (h3 : 0 ≤ i) (h4 : i < 8) {f : _ → Option β'} : (aI_ SH0_ M (kP_ x) i).bind f = f (M (kP_ x) i.toNat) := congrArg (fun o => Option.bind o f) (qikP_ h1 h2 h3 h4)
theorem qskP_ {M : Mem_m} {i v : Int} {x : Int} (h1 : 0 ≤ x) (h2 : x < 16) (h3 : 0 ≤ i) (h4 : i < 8) : sI_ SH0_ M (kP_ x) i v = some (st_m M (kP_ x) i.toNat v) := sI_ok (N := 8) (k1kP_ h1 h2) (k2kP_ h1 h2) h3 h4
theorem bqskP_ {β' : Type} {M : Mem_m} {i v : Int} {x : Int} (h1 : 0 ≤ x) (h2 : x < 16) (h3 : 0 ≤ i) (h4 : i < 8) {f : _ → Option β'} : (sI_ SH0_ M (kP_ x) i v).bind f = f (st_m M (kP_ x) i.toNat v) := congrArg (fun o => Option.bind o f) (qskP_ h1 h2 h3 h4)
theorem qikR_ {M : Mem_m} {i : Int} {x : Int} (h1 : 0 ≤ x) (h2 : x < 16) (h3 : 0 ≤ i) (h4 : i < 8) : aI_ SH0_ M (kR_ x) i = some (M (kR_ x) i.toNat) := aI_ok (N := 8) (k1kR_ h1 h2) (k2kR_ h1 h2) h3 h4
theorem bqikR_ {β' : Type} {M : Mem_m} {i : Int} {x : Int} (h1 : 0 ≤ x) (h2 : x < 16) (h3 : 0 ≤ i) (h4 : i < 8) {f : _ → Option β'} : (aI_ SH0_ M (kR_ x) i).bind f = f (M (kR_ x) i.toNat) := congrArg (fun o => Option.bind o f) (qikR_ h1 h2 h3 h4)
theorem qskR_ {M : Mem_m} {i v : Int} {x : Int} (h1 : 0 ≤ x) (h2 : x < 16) (h3 : 0 ≤ i) (h4 : i < 8) : sI_ SH0_ M (kR_ x) i v = some (st_m M (kR_ x) i.toNat v) := sI_ok (N := 8) (k1kR_ h1 h2) (k2kR_ h1 h2) h3 h4
theorem bqskR_ {β' : Type} {M : Mem_m} {i v : Int} {x : Int} (h1 : 0 ≤ x) (h2 : x < 16) (h3 : 0 ≤ i) (h4 : i < 8) {f : _ → Option β'} : (sI_ SH0_ M (kR_ x) i v).bind f = f (st_m M (kR_ x) i.toNat v) := congrArg (fun o => Option.bind o f) (qskR_ h1 h2 h3 h4)
theorem qikX_ {M : Mem_m} {i : Int} {x : Int} (h1 : 0 ≤ x) (h2 : x < 10) (h3 : 0 ≤ i) (h4 : i < 8) : aI_ SH0_ M (kX_ x) i = some (M (kX_ x) i.toNat) := aI_ok (N := 8) (k1kX_ h1 h2) (k2kX_ h1 h2) h3 h4
theorem bqikX_ {β' : Type} {M : Mem_m} {i : Int} {x : Int} (h1 : 0 ≤ x) (h2 : x < 10) (h3 : 0 ≤ i) (h4 : i < 8) {f : _ → Option β'} : (aI_ SH0_ M (kX_ x) i).bind f = f (M (kX_ x) i.toNat) := congrArg (fun o => Option.bind o f) (qikX_ h1 h2 h3 h4)
theorem qskX_ {M : Mem_m} {i v : Int} {x : Int} (h1 : 0 ≤ x) (h2 : x < 10) (h3 : 0 ≤ i) (h4 : i < 8) : sI_ SH0_ M (kX_ x) i v = some (st_m M (kX_ x) i.toNat v) := sI_ok (N := 8) (k1kX_ h1 h2) (k2kX_ h1 h2) h3 h4
theorem bqskX_ {β' : Type} {M : Mem_m} {i v : Int} {x : Int} (h1 : 0 ≤ x) (h2 : x < 10) (h3 : 0 ≤ i) (h4 : i < 8) {f : _ → Option β'} : (sI_ SH0_ M (kX_ x) i v).bind f = f (st_m M (kX_ x) i.toNat v) := congrArg (fun o => Option.bind o f) (qskX_ h1 h2 h3 h4)
theorem qikG_ {M : Mem_m} {i : Int} {x : Int} (h1 : 0 ≤ x) (h2 : x < 8) (h3 : 0 ≤ i) (h4 : i < 8) : aI_ SH0_ M (kG_ x) i = some (M (kG_ x) i.toNat) := aI_ok (N := 8) (k1kG_ h1 h2) (k2kG_ h1 h2) h3 h4
theorem bqikG_ {β' : Type} {M : Mem_m} {i : Int} {x : Int} (h1 : 0 ≤ x) (h2 : x < 8) (h3 : 0 ≤ i) (h4 : i < 8) {f : _ → Option β'} : (aI_ SH0_ M (kG_ x) i).bind f = f (M (kG_ x) i.toNat) := congrArg (fun o => Option.bind o f) (qikG_ h1 h2 h3 h4)
theorem qskG_ {M : Mem_m} {i v : Int} {x : Int} (h1 : 0 ≤ x) (h2 : x < 8) (h3 : 0 ≤ i) (h4 : i < 8) : sI_ SH0_ M (kG_ x) i v = some (st_m M (kG_ x) i.toNat v) := sI_ok (N := 8) (k1kG_ h1 h2) (k2kG_ h1 h2) h3 h4
theorem bqskG_ {β' : Type} {M : Mem_m} {i v : Int} {x : Int} (h1 : 0 ≤ x) (h2 : x < 8) (h3 : 0 ≤ i) (h4 : i < 8) {f : _ → Option β'} : (sI_ SH0_ M (kG_ x) i v).bind f = f (st_m M (kG_ x) i.toNat v) := congrArg (fun o => Option.bind o f) (qskG_ h1 h2 h3 h4)
theorem qikI_ {M : Mem_m} {i : Int} {x : Int} (h1 : 0 ≤ x) (h2 : x < 8) (h3 : 0 ≤ i) (h4 : i < 8) : aI_ SH0_ M (kI_ x) i = some (M (kI_ x) i.toNat) := aI_ok (N := 8) (k1kI_ h1 h2) (k2kI_ h1 h2) h3 h4
theorem bqikI_ {β' : Type} {M : Mem_m} {i : Int} {x : Int} (h1 : 0 ≤ x) (h2 : x < 8) (h3 : 0 ≤ i) (h4 : i < 8) {f : _ → Option β'} : (aI_ SH0_ M (kI_ x) i).bind f = f (M (kI_ x) i.toNat) := congrArg (fun o => Option.bind o f) (qikI_ h1 h2 h3 h4)
theorem qskI_ {M : Mem_m} {i v : Int} {x : Int} (h1 : 0 ≤ x) (h2 : x < 8) (h3 : 0 ≤ i) (h4 : i < 8) : sI_ SH0_ M (kI_ x) i v = some (st_m M (kI_ x) i.toNat v) := sI_ok (N := 8) (k1kI_ h1 h2) (k2kI_ h1 h2) h3 h4
theorem bqskI_ {β' : Type} {M : Mem_m} {i v : Int} {x : Int} (h1 : 0 ≤ x) (h2 : x < 8) (h3 : 0 ≤ i) (h4 : i < 8) {f : _ → Option β'} : (sI_ SH0_ M (kI_ x) i v).bind f = f (st_m M (kI_ x) i.toNat v) := congrArg (fun o => Option.bind o f) (qskI_ h1 h2 h3 h4)
theorem qikJ_ {M : Mem_m} {i : Int} {x : Int} (h1 : 0 ≤ x) (h2 : x < 8) (h3 : 0 ≤ i) (h4 : i < 80) : aI_ SH0_ M (kJ_ x) i = some (M (kJ_ x) i.toNat) := aI_ok (N := 80) (k1kJ_ h1 h2) (k2kJ_ h1 h2) h3 h4
theorem bqikJ_ {β' : Type} {M : Mem_m} {i : Int} {x : Int} (h1 : 0 ≤ x) (h2 : x < 8) (h3 : 0 ≤ i) (h4 : i < 80) {f : _ → Option β'} : (aI_ SH0_ M (kJ_ x) i).bind f = f (M (kJ_ x) i.toNat) := congrArg (fun o => Option.bind o f) (qikJ_ h1 h2 h3 h4)
theorem qskJ_ {M : Mem_m} {i v : Int} {x : Int} (h1 : 0 ≤ x) (h2 : x < 8) (h3 : 0 ≤ i) (h4 : i < 80) : sI_ SH0_ M (kJ_ x) i v = some (st_m M (kJ_ x) i.toNat v) := sI_ok (N := 80) (k1kJ_ h1 h2) (k2kJ_ h1 h2) h3 h4
theorem bqskJ_ {β' : Type} {M : Mem_m} {i v : Int} {x : Int} (h1 : 0 ≤ x) (h2 : x < 8) (h3 : 0 ≤ i) (h4 : i < 80) {f : _ → Option β'} : (sI_ SH0_ M (kJ_ x) i v).bind f = f (st_m M (kJ_ x) i.toNat v) := congrArg (fun o => Option.bind o f) (qskJ_ h1 h2 h3 h4)
theorem qvkC_ {β : Type} {o : Option β} {x : Int} (h1 : 0 ≤ x) (h2 : x < 40) : vc_ SH0_ (kC_ x) 1 o = o := vc_ok (k1kC_ h1 h2) (congrArg Prod.fst (k2kC_ h1 h2))
theorem bqvkC_ {β' : Type} {β : Type} {o : Option β} {x : Int} (h1 : 0 ≤ x) (h2 : x < 40) {f : _ → Option β'} : (vc_ SH0_ (kC_ x) 1 o).bind f = (o).bind f := congrArg (fun o => Option.bind o f) (qvkC_ h1 h2)
theorem qvkD_ {β : Type} {o : Option β} {x : Int} (h1 : 0 ≤ x) (h2 : x < 40) : vc_ SH0_ (kD_ x) 10 o = o := vc_ok (k1kD_ h1 h2) (congrArg Prod.fst (k2kD_ h1 h2))
theorem bqvkD_ {β' : Type} {β : Type} {o : Option β} {x : Int} (h1 : 0 ≤ x) (h2 : x < 40) {f : _ → Option β'} : (vc_ SH0_ (kD_ x) 10 o).bind f = (o).bind f := congrArg (fun o => Option.bind o f) (qvkD_ h1 h2)
theorem qvkN_ {β : Type} {o : Option β} {x : Int} (h1 : 0 ≤ x) (h2 : x < 16) : vc_ SH0_ (kN_ x) 5 o = o := vc_ok (k1kN_ h1 h2) (congrArg Prod.fst (k2kN_ h1 h2))
theorem bqvkN_ {β' : Type} {β : Type} {o : Option β} {x : Int} (h1 : 0 ≤ x) (h2 : x < 16) {f : _ → Option β'} : (vc_ SH0_ (kN_ x) 5 o).bind f = (o).bind f := congrArg (fun o => Option.bind o f) (qvkN_ h1 h2)
theorem qvkO_ {β : Type} {o : Option β} {x : Int} (h1 : 0 ≤ x) (h2 : x < 16) : vc_ SH0_ (kO_ x) 10 o = o := vc_ok (k1kO_ h1 h2) (congrArg Prod.fst (k2kO_ h1 h2))
theorem bqvkO_ {β' : Type} {β : Type} {o : Option β} {x : Int} (h1 : 0 ≤ x) (h2 : x < 16) {f : _ → Option β'} : (vc_ SH0_ (kO_ x) 10 o).bind f = (o).bind f := congrArg (fun o => Option.bind o f) (qvkO_ h1 h2)
theorem qvkQ_ {β : Type} {o : Option β} {x : Int} (h1 : 0 ≤ x) (h2 : x < 16) : vc_ SH0_ (kQ_ x) 10 o = o := vc_ok (k1kQ_ h1 h2) (congrArg Prod.fst (k2kQ_ h1 h2))
theorem bqvkQ_ {β' : Type} {β : Type} {o : Option β} {x : Int} (h1 : 0 ≤ x) (h2 : x < 16) {f : _ → Option β'} : (vc_ SH0_ (kQ_ x) 10 o).bind f = (o).bind f := congrArg (fun o => Option.bind o f) (qvkQ_ h1 h2)
theorem qvkU_ {β : Type} {o : Option β} {x : Int} (h1 : 0 ≤ x) (h2 : x < 8) : vc_ SH0_ (kU_ x) 7 o = o := vc_ok (k1kU_ h1 h2) (congrArg Prod.fst (k2kU_ h1 h2))
theorem bqvkU_ {β' : Type} {β : Type} {o : Option β} {x : Int} (h1 : 0 ≤ x) (h2 : x < 8) {f : _ → Option β'} : (vc_ SH0_ (kU_ x) 7 o).bind f = (o).bind f := congrArg (fun o => Option.bind o f) (qvkU_ h1 h2)
theorem qvkY_ {β : Type} {o : Option β} {x : Int} (h1 : 0 ≤ x) (h2 : x < 20) : vc_ SH0_ (kY_ x) 8 o = o := vc_ok (k1kY_ h1 h2) (congrArg Prod.fst (k2kY_ h1 h2))
theorem bqvkY_ {β' : Type} {β : Type} {o : Option β} {x : Int} (h1 : 0 ≤ x) (h2 : x < 20) {f : _ → Option β'} : (vc_ SH0_ (kY_ x) 8 o).bind f = (o).bind f := congrArg (fun o => Option.bind o f) (qvkY_ h1 h2)
theorem qvkW_ {β : Type} {o : Option β} {x : Int} (h1 : 0 ≤ x) (h2 : x < 10) : vc_ SH0_ (kW_ x) 10 o = o := vc_ok (k1kW_ h1 h2) (congrArg Prod.fst (k2kW_ h1 h2))
theorem bqvkW_ {β' : Type} {β : Type} {o : Option β} {x : Int} (h1 : 0 ≤ x) (h2 : x < 10) {f : _ → Option β'} : (vc_ SH0_ (kW_ x) 10 o).bind f = (o).bind f := congrArg (fun o => Option.bind o f) (qvkW_ h1 h2)
theorem qvkS_ {β : Type} {o : Option β} {x : Int} (h1 : 0 ≤ x) (h2 : x < 8) : vc_ SH0_ (kS_ x) 9 o = o := vc_ok (k1kS_ h1 h2) (congrArg Prod.fst (k2kS_ h1 h2))
theorem bqvkS_ {β' : Type} {β : Type} {o : Option β} {x : Int} (h1 : 0 ≤ x) (h2 : x < 8) {f : _ → Option β'} : (vc_ SH0_ (kS_ x) 9 o).bind f = (o).bind f := congrArg (fun o => Option.bind o f) (qvkS_ h1 h2)
theorem qvkT_ {β : Type} {o : Option β} {x : Int} (h1 : 0 ≤ x) (h2 : x < 8) : vc_ SH0_ (kT_ x) 5 o = o := vc_ok (k1kT_ h1 h2) (congrArg Prod.fst (k2kT_ h1 h2))
theorem bqvkT_ {β' : Type} {β : Type} {o : Option β} {x : Int} (h1 : 0 ≤ x) (h2 : x < 8) {f : _ → Option β'} : (vc_ SH0_ (kT_ x) 5 o).bind f = (o).bind f := congrArg (fun o => Option.bind o f) (qvkT_ h1 h2)
theorem qvkF_ {β : Type} {o : Option β} {x : Int} (h1 : 0 ≤ x) (h2 : x < 8) : vc_ SH0_ (kF_ x) 10 o = o := vc_ok (k1kF_ h1 h2) (congrArg Prod.fst (k2kF_ h1 h2))
theorem bqvkF_ {β' : Type} {β : Type} {o : Option β} {x : Int} (h1 : 0 ≤ x) (h2 : x < 8) {f : _ → Option β'} : (vc_ SH0_ (kF_ x) 10 o).bind f = (o).bind f := congrArg (fun o => Option.bind o f) (qvkF_ h1 h2)
theorem qvkH_ {β : Type} {o : Option β} {x : Int} (h1 : 0 ≤ x) (h2 : x < 8) : vc_ SH0_ (kH_ x) 10 o = o := vc_ok (k1kH_ h1 h2) (congrArg Prod.fst (k2kH_ h1 h2))
theorem bqvkH_ {β' : Type} {β : Type} {o : Option β} {x : Int} (h1 : 0 ≤ x) (h2 : x < 8) {f : _ → Option β'} : (vc_ SH0_ (kH_ x) 10 o).bind f = (o).bind f := congrArg (fun o => Option.bind o f) (qvkH_ h1 h2)
theorem qr_0_0 : gR_ SH0_ 0 11 0 = some 1 := rfl
theorem bqr_0_0 {β' : Type}  {f : _ → Option β'} : (gR_ SH0_ 0 11 0).bind f = f 1 := congrArg (fun o => Option.bind o f) (qr_0_0)
theorem qr_0_1 : gR_ SH0_ 0 11 1 = some 259 := rfl
theorem bqr_0_1 {β' : Type}  {f : _ → Option β'} : (gR_ SH0_ 0 11 1).bind f = f 259 := congrArg (fun o => Option.bind o f) (qr_0_1)
theorem qr_0_3 : gR_ SH0_ 0 11 3 = some 517 := rfl
theorem bqr_0_3 {β' : Type}  {f : _ → Option β'} : (gR_ SH0_ 0 11 3).bind f = f 517 := congrArg (fun o => Option.bind o f) (qr_0_3)
theorem qr_0_4 : gR_ SH0_ 0 11 4 = some 518 := rfl
theorem bqr_0_4 {β' : Type}  {f : _ → Option β'} : (gR_ SH0_ 0 11 4).bind f = f 518 := congrArg (fun o => Option.bind o f) (qr_0_4)
theorem qr_0_5 : gR_ SH0_ 0 11 5 = some 524 := rfl
theorem bqr_0_5 {β' : Type}  {f : _ → Option β'} : (gR_ SH0_ 0 11 5).bind f = f 524 := congrArg (fun o => Option.bind o f) (qr_0_5)
theorem qr_0_6 : gR_ SH0_ 0 11 6 = some 528 := rfl
theorem bqr_0_6 {β' : Type}  {f : _ → Option β'} : (gR_ SH0_ 0 11 6).bind f = f 528 := congrArg (fun o => Option.bind o f) (qr_0_6)
theorem qr_0_7 : gR_ SH0_ 0 11 7 = some 531 := rfl
theorem bqr_0_7 {β' : Type}  {f : _ → Option β'} : (gR_ SH0_ 0 11 7).bind f = f 531 := congrArg (fun o => Option.bind o f) (qr_0_7)
theorem qr_0_8 : gR_ SH0_ 0 11 8 = some 535 := rfl
theorem bqr_0_8 {β' : Type}  {f : _ → Option β'} : (gR_ SH0_ 0 11 8).bind f = f 535 := congrArg (fun o => Option.bind o f) (qr_0_8)
theorem qr_1_0 : gR_ SH0_ 1 0 0 = some 2 := rfl
theorem bqr_1_0 {β' : Type}  {f : _ → Option β'} : (gR_ SH0_ 1 0 0).bind f = f 2 := congrArg (fun o => Option.bind o f) (qr_1_0)
theorem qr_1_1 : gR_ SH0_ 1 0 1 = some 3 := rfl
theorem bqr_1_1 {β' : Type}  {f : _ → Option β'} : (gR_ SH0_ 1 0 1).bind f = f 3 := congrArg (fun o => Option.bind o f) (qr_1_1)
theorem qr_1_2 : gR_ SH0_ 1 0 2 = some 4 := rfl
theorem bqr_1_2 {β' : Type}  {f : _ → Option β'} : (gR_ SH0_ 1 0 2).bind f = f 4 := congrArg (fun o => Option.bind o f) (qr_1_2)
theorem qr_1_3 : gR_ SH0_ 1 0 3 = some 5 := rfl
theorem bqr_1_3 {β' : Type}  {f : _ → Option β'} : (gR_ SH0_ 1 0 3).bind f = f 5 := congrArg (fun o => Option.bind o f) (qr_1_3)
theorem qr_1_5 : gR_ SH0_ 1 0 5 = some 6 := rfl
theorem bqr_1_5 {β' : Type}  {f : _ → Option β'} : (gR_ SH0_ 1 0 5).bind f = f 6 := congrArg (fun o => Option.bind o f) (qr_1_5)
theorem qr_1_8 : gR_ SH0_ 1 0 8 = some 7 := rfl
theorem bqr_1_8 {β' : Type}  {f : _ → Option β'} : (gR_ SH0_ 1 0 8).bind f = f 7 := congrArg (fun o => Option.bind o f) (qr_1_8)
theorem qr_1_10 : gR_ SH0_ 1 0 10 = some 8 := rfl
theorem bqr_1_10 {β' : Type}  {f : _ → Option β'} : (gR_ SH0_ 1 0 10).bind f = f 8 := congrArg (fun o => Option.bind o f) (qr_1_10)
theorem qr_1_12 : gR_ SH0_ 1 0 12 = some 9 := rfl
theorem bqr_1_12 {β' : Type}  {f : _ → Option β'} : (gR_ SH0_ 1 0 12).bind f = f 9 := congrArg (fun o => Option.bind o f) (qr_1_12)
theorem qr_1_13 : gR_ SH0_ 1 0 13 = some 10 := rfl
theorem bqr_1_13 {β' : Type}  {f : _ → Option β'} : (gR_ SH0_ 1 0 13).bind f = f 10 := congrArg (fun o => Option.bind o f) (qr_1_13)
theorem qr_518_0 : gR_ SH0_ 518 2 0 = some 519 := rfl
theorem bqr_518_0 {β' : Type}  {f : _ → Option β'} : (gR_ SH0_ 518 2 0).bind f = f 519 := congrArg (fun o => Option.bind o f) (qr_518_0)
theorem qr_518_1 : gR_ SH0_ 518 2 1 = some 520 := rfl
theorem bqr_518_1 {β' : Type}  {f : _ → Option β'} : (gR_ SH0_ 518 2 1).bind f = f 520 := congrArg (fun o => Option.bind o f) (qr_518_1)
theorem qr_518_2 : gR_ SH0_ 518 2 2 = some 521 := rfl
theorem bqr_518_2 {β' : Type}  {f : _ → Option β'} : (gR_ SH0_ 518 2 2).bind f = f 521 := congrArg (fun o => Option.bind o f) (qr_518_2)
theorem qr_518_6 : gR_ SH0_ 518 2 6 = some 522 := rfl
theorem bqr_518_6 {β' : Type}  {f : _ → Option β'} : (gR_ SH0_ 518 2 6).bind f = f 522 := congrArg (fun o => Option.bind o f) (qr_518_6)
theorem qr_518_7 : gR_ SH0_ 518 2 7 = some 523 := rfl
theorem bqr_518_7 {β' : Type}  {f : _ → Option β'} : (gR_ SH0_ 518 2 7).bind f = f 523 := congrArg (fun o => Option.bind o f) (qr_518_7)
theorem qr_524_0 : gR_ SH0_ 524 3 0 = some 525 := rfl
theorem bqr_524_0 {β' : Type}  {f : _ → Option β'} : (gR_ SH0_ 524 3 0).bind f = f 525 := congrArg (fun o => Option.bind o f) (qr_524_0)
theorem qr_524_2 : gR_ SH0_ 524 3 2 = some 526 := rfl
theorem bqr_524_2 {β' : Type}  {f : _ → Option β'} : (gR_ SH0_ 524 3 2).bind f = f 526 := congrArg (fun o => Option.bind o f) (qr_524_2)
theorem qr_524_4 : gR_ SH0_ 524 3 4 = some 527 := rfl
theorem bqr_524_4 {β' : Type}  {f : _ → Option β'} : (gR_ SH0_ 524 3 4).bind f = f 527 := congrArg (fun o => Option.bind o f) (qr_524_4)
theorem qr_528_0 : gR_ SH0_ 528 6 0 = some 529 := rfl
theorem bqr_528_0 {β' : Type}  {f : _ → Option β'} : (gR_ SH0_ 528 6 0).bind f = f 529 := congrArg (fun o => Option.bind o f) (qr_528_0)
theorem qr_528_1 : gR_ SH0_ 528 6 1 = some 530 := rfl
theorem bqr_528_1 {β' : Type}  {f : _ → Option β'} : (gR_ SH0_ 528 6 1).bind f = f 530 := congrArg (fun o => Option.bind o f) (qr_528_1)
theorem qr_531_0 : gR_ SH0_ 531 4 0 = some 532 := rfl
theorem bqr_531_0 {β' : Type}  {f : _ → Option β'} : (gR_ SH0_ 531 4 0).bind f = f 532 := congrArg (fun o => Option.bind o f) (qr_531_0)
theorem qr_531_1 : gR_ SH0_ 531 4 1 = some 533 := rfl
theorem bqr_531_1 {β' : Type}  {f : _ → Option β'} : (gR_ SH0_ 531 4 1).bind f = f 533 := congrArg (fun o => Option.bind o f) (qr_531_1)
theorem qr_531_3 : gR_ SH0_ 531 4 3 = some 534 := rfl
theorem bqr_531_3 {β' : Type}  {f : _ → Option β'} : (gR_ SH0_ 531 4 3).bind f = f 534 := congrArg (fun o => Option.bind o f) (qr_531_3)
theorem qr_592_0 : gR_ SH0_ 592 12 0 = some 593 := rfl
theorem bqr_592_0 {β' : Type}  {f : _ → Option β'} : (gR_ SH0_ 592 12 0).bind f = f 593 := congrArg (fun o => Option.bind o f) (qr_592_0)
theorem qr_592_1 : gR_ SH0_ 592 12 1 = some 594 := rfl
theorem bqr_592_1 {β' : Type}  {f : _ → Option β'} : (gR_ SH0_ 592 12 1).bind f = f 594 := congrArg (fun o => Option.bind o f) (qr_592_1)
theorem qr_592_2 : gR_ SH0_ 592 12 2 = some 595 := rfl
theorem bqr_592_2 {β' : Type}  {f : _ → Option β'} : (gR_ SH0_ 592 12 2).bind f = f 595 := congrArg (fun o => Option.bind o f) (qr_592_2)
theorem qr_592_3 : gR_ SH0_ 592 12 3 = some 596 := rfl
theorem bqr_592_3 {β' : Type}  {f : _ → Option β'} : (gR_ SH0_ 592 12 3).bind f = f 596 := congrArg (fun o => Option.bind o f) (qr_592_3)
theorem qr_592_4 : gR_ SH0_ 592 12 4 = some 597 := rfl
theorem bqr_592_4 {β' : Type}  {f : _ → Option β'} : (gR_ SH0_ 592 12 4).bind f = f 597 := congrArg (fun o => Option.bind o f) (qr_592_4)
theorem qr_592_5 : gR_ SH0_ 592 12 5 = some 598 := rfl
theorem bqr_592_5 {β' : Type}  {f : _ → Option β'} : (gR_ SH0_ 592 12 5).bind f = f 598 := congrArg (fun o => Option.bind o f) (qr_592_5)
theorem qr_592_6 : gR_ SH0_ 592 12 6 = some 599 := rfl
theorem bqr_592_6 {β' : Type}  {f : _ → Option β'} : (gR_ SH0_ 592 12 6).bind f = f 599 := congrArg (fun o => Option.bind o f) (qr_592_6)
theorem qr_592_7 : gR_ SH0_ 592 12 7 = some 600 := rfl
theorem bqr_592_7 {β' : Type}  {f : _ → Option β'} : (gR_ SH0_ 592 12 7).bind f = f 600 := congrArg (fun o => Option.bind o f) (qr_592_7)
theorem qr_592_11 : gR_ SH0_ 592 12 11 = some 601 := rfl
theorem bqr_592_11 {β' : Type}  {f : _ → Option β'} : (gR_ SH0_ 592 12 11).bind f = f 601 := congrArg (fun o => Option.bind o f) (qr_592_11)
theorem qr_592_12 : gR_ SH0_ 592 12 12 = some 602 := rfl
theorem bqr_592_12 {β' : Type}  {f : _ → Option β'} : (gR_ SH0_ 592 12 12).bind f = f 602 := congrArg (fun o => Option.bind o f) (qr_592_12)
theorem qr_592_13 : gR_ SH0_ 592 12 13 = some 603 := rfl
theorem bqr_592_13 {β' : Type}  {f : _ → Option β'} : (gR_ SH0_ 592 12 13).bind f = f 603 := congrArg (fun o => Option.bind o f) (qr_592_13)
theorem qr_592_17 : gR_ SH0_ 592 12 17 = some 604 := rfl
theorem bqr_592_17 {β' : Type}  {f : _ → Option β'} : (gR_ SH0_ 592 12 17).bind f = f 604 := congrArg (fun o => Option.bind o f) (qr_592_17)
theorem qr_592_18 : gR_ SH0_ 592 12 18 = some 605 := rfl
theorem bqr_592_18 {β' : Type}  {f : _ → Option β'} : (gR_ SH0_ 592 12 18).bind f = f 605 := congrArg (fun o => Option.bind o f) (qr_592_18)
theorem qr_592_19 : gR_ SH0_ 592 12 19 = some 606 := rfl
theorem bqr_592_19 {β' : Type}  {f : _ → Option β'} : (gR_ SH0_ 592 12 19).bind f = f 606 := congrArg (fun o => Option.bind o f) (qr_592_19)
theorem qr_592_23 : gR_ SH0_ 592 12 23 = some 607 := rfl
theorem bqr_592_23 {β' : Type}  {f : _ → Option β'} : (gR_ SH0_ 592 12 23).bind f = f 607 := congrArg (fun o => Option.bind o f) (qr_592_23)
theorem qr_592_26 : gR_ SH0_ 592 12 26 = some 608 := rfl
theorem bqr_592_26 {β' : Type}  {f : _ → Option β'} : (gR_ SH0_ 592 12 26).bind f = f 608 := congrArg (fun o => Option.bind o f) (qr_592_26)
theorem qr_592_27 : gR_ SH0_ 592 12 27 = some 609 := rfl
theorem bqr_592_27 {β' : Type}  {f : _ → Option β'} : (gR_ SH0_ 592 12 27).bind f = f 609 := congrArg (fun o => Option.bind o f) (qr_592_27)
theorem qr_592_28 : gR_ SH0_ 592 12 28 = some 610 := rfl
theorem bqr_592_28 {β' : Type}  {f : _ → Option β'} : (gR_ SH0_ 592 12 28).bind f = f 610 := congrArg (fun o => Option.bind o f) (qr_592_28)
theorem qg_0_2 {M : Mem_m} : gI_ SH0_ M 0 11 2 = some (M 0 2) := gI_ok (by decide) rfl rfl
theorem bqg_0_2 {β' : Type} {M : Mem_m} {f : _ → Option β'} : (gI_ SH0_ M 0 11 2).bind f = f (M 0 2) := congrArg (fun o => Option.bind o f) (qg_0_2)
theorem qp_0_2 {M : Mem_m} {v : Int} (hv : v = 0 ∨ v = 1) : pZ_ SH0_ M 0 11 2 v = some (st_m M 0 2 v) := pZ_ok (by decide) rfl rfl hv
theorem bqp_0_2 {β' : Type} {M : Mem_m} {v : Int} (hv : v = 0 ∨ v = 1) {f : _ → Option β'} : (pZ_ SH0_ M 0 11 2 v).bind f = f (st_m M 0 2 v) := congrArg (fun o => Option.bind o f) (qp_0_2 hv)
theorem qg_1_4 {M : Mem_m} : gI_ SH0_ M 1 0 4 = some (M 1 4) := gI_ok (by decide) rfl rfl
theorem bqg_1_4 {β' : Type} {M : Mem_m} {f : _ → Option β'} : (gI_ SH0_ M 1 0 4).bind f = f (M 1 4) := congrArg (fun o => Option.bind o f) (qg_1_4)
theorem qp_1_4 {M : Mem_m} {v : Int} : pI_ SH0_ M 1 0 4 v = some (st_m M 1 4 v) := pI_ok (by decide) rfl rfl
theorem bqp_1_4 {β' : Type} {M : Mem_m} {v : Int} {f : _ → Option β'} : (pI_ SH0_ M 1 0 4 v).bind f = f (st_m M 1 4 v) := congrArg (fun o => Option.bind o f) (qp_1_4)
theorem qg_1_6 {M : Mem_m} : gI_ SH0_ M 1 0 6 = some (M 1 6) := gI_ok (by decide) rfl rfl
theorem bqg_1_6 {β' : Type} {M : Mem_m} {f : _ → Option β'} : (gI_ SH0_ M 1 0 6).bind f = f (M 1 6) := congrArg (fun o => Option.bind o f) (qg_1_6)
theorem qp_1_6 {M : Mem_m} {v : Int} : pI_ SH0_ M 1 0 6 v = some (st_m M 1 6 v) := pI_ok (by decide) rfl rfl
theorem bqp_1_6 {β' : Type} {M : Mem_m} {v : Int} {f : _ → Option β'} : (pI_ SH0_ M 1 0 6 v).bind f = f (st_m M 1 6 v) := congrArg (fun o => Option.bind o f) (qp_1_6)
theorem qg_1_7 {M : Mem_m} : gI_ SH0_ M 1 0 7 = some (M 1 7) := gI_ok (by decide) rfl rfl
theorem bqg_1_7 {β' : Type} {M : Mem_m} {f : _ → Option β'} : (gI_ SH0_ M 1 0 7).bind f = f (M 1 7) := congrArg (fun o => Option.bind o f) (qg_1_7)
theorem qp_1_7 {M : Mem_m} {v : Int} : pI_ SH0_ M 1 0 7 v = some (st_m M 1 7 v) := pI_ok (by decide) rfl rfl
theorem bqp_1_7 {β' : Type} {M : Mem_m} {v : Int} {f : _ → Option β'} : (pI_ SH0_ M 1 0 7 v).bind f = f (st_m M 1 7 v) := congrArg (fun o => Option.bind o f) (qp_1_7)
theorem qg_1_9 {M : Mem_m} : gI_ SH0_ M 1 0 9 = some (M 1 9) := gI_ok (by decide) rfl rfl
theorem bqg_1_9 {β' : Type} {M : Mem_m} {f : _ → Option β'} : (gI_ SH0_ M 1 0 9).bind f = f (M 1 9) := congrArg (fun o => Option.bind o f) (qg_1_9)
theorem qp_1_9 {M : Mem_m} {v : Int} : pI_ SH0_ M 1 0 9 v = some (st_m M 1 9 v) := pI_ok (by decide) rfl rfl
theorem bqp_1_9 {β' : Type} {M : Mem_m} {v : Int} {f : _ → Option β'} : (pI_ SH0_ M 1 0 9 v).bind f = f (st_m M 1 9 v) := congrArg (fun o => Option.bind o f) (qp_1_9)
theorem qg_1_11 {M : Mem_m} : gI_ SH0_ M 1 0 11 = some (M 1 11) := gI_ok (by decide) rfl rfl
theorem bqg_1_11 {β' : Type} {M : Mem_m} {f : _ → Option β'} : (gI_ SH0_ M 1 0 11).bind f = f (M 1 11) := congrArg (fun o => Option.bind o f) (qg_1_11)
theorem qp_1_11 {M : Mem_m} {v : Int} : pI_ SH0_ M 1 0 11 v = some (st_m M 1 11 v) := pI_ok (by decide) rfl rfl
theorem bqp_1_11 {β' : Type} {M : Mem_m} {v : Int} {f : _ → Option β'} : (pI_ SH0_ M 1 0 11 v).bind f = f (st_m M 1 11 v) := congrArg (fun o => Option.bind o f) (qp_1_11)
theorem qg_1_14 {M : Mem_m} : gI_ SH0_ M 1 0 14 = some (M 1 14) := gI_ok (by decide) rfl rfl
theorem bqg_1_14 {β' : Type} {M : Mem_m} {f : _ → Option β'} : (gI_ SH0_ M 1 0 14).bind f = f (M 1 14) := congrArg (fun o => Option.bind o f) (qg_1_14)
theorem qp_1_14 {M : Mem_m} {v : Int} : pI_ SH0_ M 1 0 14 v = some (st_m M 1 14 v) := pI_ok (by decide) rfl rfl
theorem bqp_1_14 {β' : Type} {M : Mem_m} {v : Int} {f : _ → Option β'} : (pI_ SH0_ M 1 0 14 v).bind f = f (st_m M 1 14 v) := congrArg (fun o => Option.bind o f) (qp_1_14)
theorem qg_518_3 {M : Mem_m} : gI_ SH0_ M 518 2 3 = some (M 518 3) := gI_ok (by decide) rfl rfl
theorem bqg_518_3 {β' : Type} {M : Mem_m} {f : _ → Option β'} : (gI_ SH0_ M 518 2 3).bind f = f (M 518 3) := congrArg (fun o => Option.bind o f) (qg_518_3)
theorem qp_518_3 {M : Mem_m} {v : Int} : pI_ SH0_ M 518 2 3 v = some (st_m M 518 3 v) := pI_ok (by decide) rfl rfl
theorem bqp_518_3 {β' : Type} {M : Mem_m} {v : Int} {f : _ → Option β'} : (pI_ SH0_ M 518 2 3 v).bind f = f (st_m M 518 3 v) := congrArg (fun o => Option.bind o f) (qp_518_3)
theorem qg_518_4 {M : Mem_m} : gI_ SH0_ M 518 2 4 = some (M 518 4) := gI_ok (by decide) rfl rfl
theorem bqg_518_4 {β' : Type} {M : Mem_m} {f : _ → Option β'} : (gI_ SH0_ M 518 2 4).bind f = f (M 518 4) := congrArg (fun o => Option.bind o f) (qg_518_4)
theorem qp_518_4 {M : Mem_m} {v : Int} : pI_ SH0_ M 518 2 4 v = some (st_m M 518 4 v) := pI_ok (by decide) rfl rfl
theorem bqp_518_4 {β' : Type} {M : Mem_m} {v : Int} {f : _ → Option β'} : (pI_ SH0_ M 518 2 4 v).bind f = f (st_m M 518 4 v) := congrArg (fun o => Option.bind o f) (qp_518_4)
theorem qg_518_5 {M : Mem_m} : gI_ SH0_ M 518 2 5 = some (M 518 5) := gI_ok (by decide) rfl rfl
theorem bqg_518_5 {β' : Type} {M : Mem_m} {f : _ → Option β'} : (gI_ SH0_ M 518 2 5).bind f = f (M 518 5) := congrArg (fun o => Option.bind o f) (qg_518_5)
theorem qp_518_5 {M : Mem_m} {v : Int} : pI_ SH0_ M 518 2 5 v = some (st_m M 518 5 v) := pI_ok (by decide) rfl rfl
theorem bqp_518_5 {β' : Type} {M : Mem_m} {v : Int} {f : _ → Option β'} : (pI_ SH0_ M 518 2 5 v).bind f = f (st_m M 518 5 v) := congrArg (fun o => Option.bind o f) (qp_518_5)
theorem qg_518_8 {M : Mem_m} : gI_ SH0_ M 518 2 8 = some (M 518 8) := gI_ok (by decide) rfl rfl
theorem bqg_518_8 {β' : Type} {M : Mem_m} {f : _ → Option β'} : (gI_ SH0_ M 518 2 8).bind f = f (M 518 8) := congrArg (fun o => Option.bind o f) (qg_518_8)
theorem qp_518_8 {M : Mem_m} {v : Int} : pI_ SH0_ M 518 2 8 v = some (st_m M 518 8 v) := pI_ok (by decide) rfl rfl
theorem bqp_518_8 {β' : Type} {M : Mem_m} {v : Int} {f : _ → Option β'} : (pI_ SH0_ M 518 2 8 v).bind f = f (st_m M 518 8 v) := congrArg (fun o => Option.bind o f) (qp_518_8)
theorem qg_518_9 {M : Mem_m} : gI_ SH0_ M 518 2 9 = some (M 518 9) := gI_ok (by decide) rfl rfl
theorem bqg_518_9 {β' : Type} {M : Mem_m} {f : _ → Option β'} : (gI_ SH0_ M 518 2 9).bind f = f (M 518 9) := congrArg (fun o => Option.bind o f) (qg_518_9)
theorem qp_518_9 {M : Mem_m} {v : Int} : pI_ SH0_ M 518 2 9 v = some (st_m M 518 9 v) := pI_ok (by decide) rfl rfl
theorem bqp_518_9 {β' : Type} {M : Mem_m} {v : Int} {f : _ → Option β'} : (pI_ SH0_ M 518 2 9 v).bind f = f (st_m M 518 9 v) := congrArg (fun o => Option.bind o f) (qp_518_9)
theorem qg_524_1 {M : Mem_m} : gI_ SH0_ M 524 3 1 = some (M 524 1) := gI_ok (by decide) rfl rfl
theorem bqg_524_1 {β' : Type} {M : Mem_m} {f : _ → Option β'} : (gI_ SH0_ M 524 3 1).bind f = f (M 524 1) := congrArg (fun o => Option.bind o f) (qg_524_1)
theorem qp_524_1 {M : Mem_m} {v : Int} : pI_ SH0_ M 524 3 1 v = some (st_m M 524 1 v) := pI_ok (by decide) rfl rfl
theorem bqp_524_1 {β' : Type} {M : Mem_m} {v : Int} {f : _ → Option β'} : (pI_ SH0_ M 524 3 1 v).bind f = f (st_m M 524 1 v) := congrArg (fun o => Option.bind o f) (qp_524_1)
theorem qg_524_3 {M : Mem_m} : gI_ SH0_ M 524 3 3 = some (M 524 3) := gI_ok (by decide) rfl rfl
theorem bqg_524_3 {β' : Type} {M : Mem_m} {f : _ → Option β'} : (gI_ SH0_ M 524 3 3).bind f = f (M 524 3) := congrArg (fun o => Option.bind o f) (qg_524_3)
theorem qp_524_3 {M : Mem_m} {v : Int} : pI_ SH0_ M 524 3 3 v = some (st_m M 524 3 v) := pI_ok (by decide) rfl rfl
theorem bqp_524_3 {β' : Type} {M : Mem_m} {v : Int} {f : _ → Option β'} : (pI_ SH0_ M 524 3 3 v).bind f = f (st_m M 524 3 v) := congrArg (fun o => Option.bind o f) (qp_524_3)
theorem qg_528_2 {M : Mem_m} : gI_ SH0_ M 528 6 2 = some (M 528 2) := gI_ok (by decide) rfl rfl
theorem bqg_528_2 {β' : Type} {M : Mem_m} {f : _ → Option β'} : (gI_ SH0_ M 528 6 2).bind f = f (M 528 2) := congrArg (fun o => Option.bind o f) (qg_528_2)
theorem qp_528_2 {M : Mem_m} {v : Int} : pI_ SH0_ M 528 6 2 v = some (st_m M 528 2 v) := pI_ok (by decide) rfl rfl
theorem bqp_528_2 {β' : Type} {M : Mem_m} {v : Int} {f : _ → Option β'} : (pI_ SH0_ M 528 6 2 v).bind f = f (st_m M 528 2 v) := congrArg (fun o => Option.bind o f) (qp_528_2)
theorem qg_528_3 {M : Mem_m} : gI_ SH0_ M 528 6 3 = some (M 528 3) := gI_ok (by decide) rfl rfl
theorem bqg_528_3 {β' : Type} {M : Mem_m} {f : _ → Option β'} : (gI_ SH0_ M 528 6 3).bind f = f (M 528 3) := congrArg (fun o => Option.bind o f) (qg_528_3)
theorem qp_528_3 {M : Mem_m} {v : Int} : pI_ SH0_ M 528 6 3 v = some (st_m M 528 3 v) := pI_ok (by decide) rfl rfl
theorem bqp_528_3 {β' : Type} {M : Mem_m} {v : Int} {f : _ → Option β'} : (pI_ SH0_ M 528 6 3 v).bind f = f (st_m M 528 3 v) := congrArg (fun o => Option.bind o f) (qp_528_3)
theorem qg_531_2 {M : Mem_m} : gI_ SH0_ M 531 4 2 = some (M 531 2) := gI_ok (by decide) rfl rfl
theorem bqg_531_2 {β' : Type} {M : Mem_m} {f : _ → Option β'} : (gI_ SH0_ M 531 4 2).bind f = f (M 531 2) := congrArg (fun o => Option.bind o f) (qg_531_2)
theorem qp_531_2 {M : Mem_m} {v : Int} : pI_ SH0_ M 531 4 2 v = some (st_m M 531 2 v) := pI_ok (by decide) rfl rfl
theorem bqp_531_2 {β' : Type} {M : Mem_m} {v : Int} {f : _ → Option β'} : (pI_ SH0_ M 531 4 2 v).bind f = f (st_m M 531 2 v) := congrArg (fun o => Option.bind o f) (qp_531_2)
theorem qg_535_0 {M : Mem_m} : gI_ SH0_ M 535 7 0 = some (M 535 0) := gI_ok (by decide) rfl rfl
theorem bqg_535_0 {β' : Type} {M : Mem_m} {f : _ → Option β'} : (gI_ SH0_ M 535 7 0).bind f = f (M 535 0) := congrArg (fun o => Option.bind o f) (qg_535_0)
theorem qp_535_0 {M : Mem_m} {v : Int} : pI_ SH0_ M 535 7 0 v = some (st_m M 535 0 v) := pI_ok (by decide) rfl rfl
theorem bqp_535_0 {β' : Type} {M : Mem_m} {v : Int} {f : _ → Option β'} : (pI_ SH0_ M 535 7 0 v).bind f = f (st_m M 535 0 v) := congrArg (fun o => Option.bind o f) (qp_535_0)
theorem qg_535_1 {M : Mem_m} : gI_ SH0_ M 535 7 1 = some (M 535 1) := gI_ok (by decide) rfl rfl
theorem bqg_535_1 {β' : Type} {M : Mem_m} {f : _ → Option β'} : (gI_ SH0_ M 535 7 1).bind f = f (M 535 1) := congrArg (fun o => Option.bind o f) (qg_535_1)
theorem qp_535_1 {M : Mem_m} {v : Int} : pI_ SH0_ M 535 7 1 v = some (st_m M 535 1 v) := pI_ok (by decide) rfl rfl
theorem bqp_535_1 {β' : Type} {M : Mem_m} {v : Int} {f : _ → Option β'} : (pI_ SH0_ M 535 7 1 v).bind f = f (st_m M 535 1 v) := congrArg (fun o => Option.bind o f) (qp_535_1)
theorem qg_535_2 {M : Mem_m} : gI_ SH0_ M 535 7 2 = some (M 535 2) := gI_ok (by decide) rfl rfl
theorem bqg_535_2 {β' : Type} {M : Mem_m} {f : _ → Option β'} : (gI_ SH0_ M 535 7 2).bind f = f (M 535 2) := congrArg (fun o => Option.bind o f) (qg_535_2)
theorem qp_535_2 {M : Mem_m} {v : Int} : pI_ SH0_ M 535 7 2 v = some (st_m M 535 2 v) := pI_ok (by decide) rfl rfl
theorem bqp_535_2 {β' : Type} {M : Mem_m} {v : Int} {f : _ → Option β'} : (pI_ SH0_ M 535 7 2 v).bind f = f (st_m M 535 2 v) := congrArg (fun o => Option.bind o f) (qp_535_2)
theorem qg_535_3 {M : Mem_m} : gI_ SH0_ M 535 7 3 = some (M 535 3) := gI_ok (by decide) rfl rfl
theorem bqg_535_3 {β' : Type} {M : Mem_m} {f : _ → Option β'} : (gI_ SH0_ M 535 7 3).bind f = f (M 535 3) := congrArg (fun o => Option.bind o f) (qg_535_3)
theorem qp_535_3 {M : Mem_m} {v : Int} : pI_ SH0_ M 535 7 3 v = some (st_m M 535 3 v) := pI_ok (by decide) rfl rfl
theorem bqp_535_3 {β' : Type} {M : Mem_m} {v : Int} {f : _ → Option β'} : (pI_ SH0_ M 535 7 3 v).bind f = f (st_m M 535 3 v) := congrArg (fun o => Option.bind o f) (qp_535_3)
theorem qg_535_4 {M : Mem_m} : gI_ SH0_ M 535 7 4 = some (M 535 4) := gI_ok (by decide) rfl rfl
theorem bqg_535_4 {β' : Type} {M : Mem_m} {f : _ → Option β'} : (gI_ SH0_ M 535 7 4).bind f = f (M 535 4) := congrArg (fun o => Option.bind o f) (qg_535_4)
theorem qp_535_4 {M : Mem_m} {v : Int} : pI_ SH0_ M 535 7 4 v = some (st_m M 535 4 v) := pI_ok (by decide) rfl rfl
theorem bqp_535_4 {β' : Type} {M : Mem_m} {v : Int} {f : _ → Option β'} : (pI_ SH0_ M 535 7 4 v).bind f = f (st_m M 535 4 v) := congrArg (fun o => Option.bind o f) (qp_535_4)
theorem qg_592_8 {M : Mem_m} : gI_ SH0_ M 592 12 8 = some (M 592 8) := gI_ok (by decide) rfl rfl
theorem bqg_592_8 {β' : Type} {M : Mem_m} {f : _ → Option β'} : (gI_ SH0_ M 592 12 8).bind f = f (M 592 8) := congrArg (fun o => Option.bind o f) (qg_592_8)
theorem qp_592_8 {M : Mem_m} {v : Int} (hv : v = 0 ∨ v = 1) : pZ_ SH0_ M 592 12 8 v = some (st_m M 592 8 v) := pZ_ok (by decide) rfl rfl hv
theorem bqp_592_8 {β' : Type} {M : Mem_m} {v : Int} (hv : v = 0 ∨ v = 1) {f : _ → Option β'} : (pZ_ SH0_ M 592 12 8 v).bind f = f (st_m M 592 8 v) := congrArg (fun o => Option.bind o f) (qp_592_8 hv)
theorem qg_592_9 {M : Mem_m} : gI_ SH0_ M 592 12 9 = some (M 592 9) := gI_ok (by decide) rfl rfl
theorem bqg_592_9 {β' : Type} {M : Mem_m} {f : _ → Option β'} : (gI_ SH0_ M 592 12 9).bind f = f (M 592 9) := congrArg (fun o => Option.bind o f) (qg_592_9)
theorem qp_592_9 {M : Mem_m} {v : Int} : pI_ SH0_ M 592 12 9 v = some (st_m M 592 9 v) := pI_ok (by decide) rfl rfl
theorem bqp_592_9 {β' : Type} {M : Mem_m} {v : Int} {f : _ → Option β'} : (pI_ SH0_ M 592 12 9 v).bind f = f (st_m M 592 9 v) := congrArg (fun o => Option.bind o f) (qp_592_9)
theorem qg_592_10 {M : Mem_m} : gI_ SH0_ M 592 12 10 = some (M 592 10) := gI_ok (by decide) rfl rfl
theorem bqg_592_10 {β' : Type} {M : Mem_m} {f : _ → Option β'} : (gI_ SH0_ M 592 12 10).bind f = f (M 592 10) := congrArg (fun o => Option.bind o f) (qg_592_10)
theorem qp_592_10 {M : Mem_m} {v : Int} : pI_ SH0_ M 592 12 10 v = some (st_m M 592 10 v) := pI_ok (by decide) rfl rfl
theorem bqp_592_10 {β' : Type} {M : Mem_m} {v : Int} {f : _ → Option β'} : (pI_ SH0_ M 592 12 10 v).bind f = f (st_m M 592 10 v) := congrArg (fun o => Option.bind o f) (qp_592_10)
theorem qg_592_14 {M : Mem_m} : gI_ SH0_ M 592 12 14 = some (M 592 14) := gI_ok (by decide) rfl rfl
theorem bqg_592_14 {β' : Type} {M : Mem_m} {f : _ → Option β'} : (gI_ SH0_ M 592 12 14).bind f = f (M 592 14) := congrArg (fun o => Option.bind o f) (qg_592_14)
theorem qp_592_14 {M : Mem_m} {v : Int} : pI_ SH0_ M 592 12 14 v = some (st_m M 592 14 v) := pI_ok (by decide) rfl rfl
theorem bqp_592_14 {β' : Type} {M : Mem_m} {v : Int} {f : _ → Option β'} : (pI_ SH0_ M 592 12 14 v).bind f = f (st_m M 592 14 v) := congrArg (fun o => Option.bind o f) (qp_592_14)
theorem qg_592_15 {M : Mem_m} : gI_ SH0_ M 592 12 15 = some (M 592 15) := gI_ok (by decide) rfl rfl
theorem bqg_592_15 {β' : Type} {M : Mem_m} {f : _ → Option β'} : (gI_ SH0_ M 592 12 15).bind f = f (M 592 15) := congrArg (fun o => Option.bind o f) (qg_592_15)
theorem qp_592_15 {M : Mem_m} {v : Int} : pI_ SH0_ M 592 12 15 v = some (st_m M 592 15 v) := pI_ok (by decide) rfl rfl
theorem bqp_592_15 {β' : Type} {M : Mem_m} {v : Int} {f : _ → Option β'} : (pI_ SH0_ M 592 12 15 v).bind f = f (st_m M 592 15 v) := congrArg (fun o => Option.bind o f) (qp_592_15)
theorem qg_592_16 {M : Mem_m} : gI_ SH0_ M 592 12 16 = some (M 592 16) := gI_ok (by decide) rfl rfl
theorem bqg_592_16 {β' : Type} {M : Mem_m} {f : _ → Option β'} : (gI_ SH0_ M 592 12 16).bind f = f (M 592 16) := congrArg (fun o => Option.bind o f) (qg_592_16)
theorem qp_592_16 {M : Mem_m} {v : Int} : pI_ SH0_ M 592 12 16 v = some (st_m M 592 16 v) := pI_ok (by decide) rfl rfl
theorem bqp_592_16 {β' : Type} {M : Mem_m} {v : Int} {f : _ → Option β'} : (pI_ SH0_ M 592 12 16 v).bind f = f (st_m M 592 16 v) := congrArg (fun o => Option.bind o f) (qp_592_16)
theorem qg_592_20 {M : Mem_m} : gI_ SH0_ M 592 12 20 = some (M 592 20) := gI_ok (by decide) rfl rfl
theorem bqg_592_20 {β' : Type} {M : Mem_m} {f : _ → Option β'} : (gI_ SH0_ M 592 12 20).bind f = f (M 592 20) := congrArg (fun o => Option.bind o f) (qg_592_20)
theorem qp_592_20 {M : Mem_m} {v : Int} : pI_ SH0_ M 592 12 20 v = some (st_m M 592 20 v) := pI_ok (by decide) rfl rfl
theorem bqp_592_20 {β' : Type} {M : Mem_m} {v : Int} {f : _ → Option β'} : (pI_ SH0_ M 592 12 20 v).bind f = f (st_m M 592 20 v) := congrArg (fun o => Option.bind o f) (qp_592_20)
theorem qg_592_21 {M : Mem_m} : gI_ SH0_ M 592 12 21 = some (M 592 21) := gI_ok (by decide) rfl rfl
theorem bqg_592_21 {β' : Type} {M : Mem_m} {f : _ → Option β'} : (gI_ SH0_ M 592 12 21).bind f = f (M 592 21) := congrArg (fun o => Option.bind o f) (qg_592_21)
theorem qp_592_21 {M : Mem_m} {v : Int} : pI_ SH0_ M 592 12 21 v = some (st_m M 592 21 v) := pI_ok (by decide) rfl rfl
theorem bqp_592_21 {β' : Type} {M : Mem_m} {v : Int} {f : _ → Option β'} : (pI_ SH0_ M 592 12 21 v).bind f = f (st_m M 592 21 v) := congrArg (fun o => Option.bind o f) (qp_592_21)
theorem qg_592_22 {M : Mem_m} : gI_ SH0_ M 592 12 22 = some (M 592 22) := gI_ok (by decide) rfl rfl
theorem bqg_592_22 {β' : Type} {M : Mem_m} {f : _ → Option β'} : (gI_ SH0_ M 592 12 22).bind f = f (M 592 22) := congrArg (fun o => Option.bind o f) (qg_592_22)
theorem qp_592_22 {M : Mem_m} {v : Int} : pI_ SH0_ M 592 12 22 v = some (st_m M 592 22 v) := pI_ok (by decide) rfl rfl
theorem bqp_592_22 {β' : Type} {M : Mem_m} {v : Int} {f : _ → Option β'} : (pI_ SH0_ M 592 12 22 v).bind f = f (st_m M 592 22 v) := congrArg (fun o => Option.bind o f) (qp_592_22)
theorem qg_592_24 {M : Mem_m} : gI_ SH0_ M 592 12 24 = some (M 592 24) := gI_ok (by decide) rfl rfl
theorem bqg_592_24 {β' : Type} {M : Mem_m} {f : _ → Option β'} : (gI_ SH0_ M 592 12 24).bind f = f (M 592 24) := congrArg (fun o => Option.bind o f) (qg_592_24)
theorem qp_592_24 {M : Mem_m} {v : Int} : pI_ SH0_ M 592 12 24 v = some (st_m M 592 24 v) := pI_ok (by decide) rfl rfl
theorem bqp_592_24 {β' : Type} {M : Mem_m} {v : Int} {f : _ → Option β'} : (pI_ SH0_ M 592 12 24 v).bind f = f (st_m M 592 24 v) := congrArg (fun o => Option.bind o f) (qp_592_24)
theorem qg_592_25 {M : Mem_m} : gI_ SH0_ M 592 12 25 = some (M 592 25) := gI_ok (by decide) rfl rfl
theorem bqg_592_25 {β' : Type} {M : Mem_m} {f : _ → Option β'} : (gI_ SH0_ M 592 12 25).bind f = f (M 592 25) := congrArg (fun o => Option.bind o f) (qg_592_25)
theorem qp_592_25 {M : Mem_m} {v : Int} : pI_ SH0_ M 592 12 25 v = some (st_m M 592 25 v) := pI_ok (by decide) rfl rfl
theorem bqp_592_25 {β' : Type} {M : Mem_m} {v : Int} {f : _ → Option β'} : (pI_ SH0_ M 592 12 25 v).bind f = f (st_m M 592 25 v) := congrArg (fun o => Option.bind o f) (qp_592_25)
theorem qg_592_29 {M : Mem_m} : gI_ SH0_ M 592 12 29 = some (M 592 29) := gI_ok (by decide) rfl rfl
theorem bqg_592_29 {β' : Type} {M : Mem_m} {f : _ → Option β'} : (gI_ SH0_ M 592 12 29).bind f = f (M 592 29) := congrArg (fun o => Option.bind o f) (qg_592_29)
theorem qp_592_29 {M : Mem_m} {v : Int} : pI_ SH0_ M 592 12 29 v = some (st_m M 592 29 v) := pI_ok (by decide) rfl rfl
theorem bqp_592_29 {β' : Type} {M : Mem_m} {v : Int} {f : _ → Option β'} : (pI_ SH0_ M 592 12 29 v).bind f = f (st_m M 592 29 v) := congrArg (fun o => Option.bind o f) (qp_592_29)
theorem qg_592_30 {M : Mem_m} : gI_ SH0_ M 592 12 30 = some (M 592 30) := gI_ok (by decide) rfl rfl
theorem bqg_592_30 {β' : Type} {M : Mem_m} {f : _ → Option β'} : (gI_ SH0_ M 592 12 30).bind f = f (M 592 30) := congrArg (fun o => Option.bind o f) (qg_592_30)
theorem qp_592_30 {M : Mem_m} {v : Int} : pI_ SH0_ M 592 12 30 v = some (st_m M 592 30 v) := pI_ok (by decide) rfl rfl
theorem bqp_592_30 {β' : Type} {M : Mem_m} {v : Int} {f : _ → Option β'} : (pI_ SH0_ M 592 12 30 v).bind f = f (st_m M 592 30 v) := congrArg (fun o => Option.bind o f) (qp_592_30)
theorem qg_592_31 {M : Mem_m} : gI_ SH0_ M 592 12 31 = some (M 592 31) := gI_ok (by decide) rfl rfl
theorem bqg_592_31 {β' : Type} {M : Mem_m} {f : _ → Option β'} : (gI_ SH0_ M 592 12 31).bind f = f (M 592 31) := congrArg (fun o => Option.bind o f) (qg_592_31)
theorem qp_592_31 {M : Mem_m} {v : Int} : pI_ SH0_ M 592 12 31 v = some (st_m M 592 31 v) := pI_ok (by decide) rfl rfl
theorem bqp_592_31 {β' : Type} {M : Mem_m} {v : Int} {f : _ → Option β'} : (pI_ SH0_ M 592 12 31 v).bind f = f (st_m M 592 31 v) := congrArg (fun o => Option.bind o f) (qp_592_31)
theorem qg_592_32 {M : Mem_m} : gI_ SH0_ M 592 12 32 = some (M 592 32) := gI_ok (by decide) rfl rfl
theorem bqg_592_32 {β' : Type} {M : Mem_m} {f : _ → Option β'} : (gI_ SH0_ M 592 12 32).bind f = f (M 592 32) := congrArg (fun o => Option.bind o f) (qg_592_32)
theorem qp_592_32 {M : Mem_m} {v : Int} : pI_ SH0_ M 592 12 32 v = some (st_m M 592 32 v) := pI_ok (by decide) rfl rfl
theorem bqp_592_32 {β' : Type} {M : Mem_m} {v : Int} {f : _ → Option β'} : (pI_ SH0_ M 592 12 32 v).bind f = f (st_m M 592 32 v) := congrArg (fun o => Option.bind o f) (qp_592_32)
theorem qv_0 {β : Type} {o : Option β} : vc_ SH0_ 0 11 o = o := vc_ok (by decide) rfl
theorem bqv_0 {β' : Type} {β : Type} {o : Option β} {f : _ → Option β'} : (vc_ SH0_ 0 11 o).bind f = (o).bind f := congrArg (fun o => Option.bind o f) (qv_0)
theorem qv_1 {β : Type} {o : Option β} : vc_ SH0_ 1 0 o = o := vc_ok (by decide) rfl
theorem bqv_1 {β' : Type} {β : Type} {o : Option β} {f : _ → Option β'} : (vc_ SH0_ 1 0 o).bind f = (o).bind f := congrArg (fun o => Option.bind o f) (qv_1)
theorem qv_259 {β : Type} {o : Option β} : vc_ SH0_ 259 0 o = o := vc_ok (by decide) rfl
theorem bqv_259 {β' : Type} {β : Type} {o : Option β} {f : _ → Option β'} : (vc_ SH0_ 259 0 o).bind f = (o).bind f := congrArg (fun o => Option.bind o f) (qv_259)
theorem qv_518 {β : Type} {o : Option β} : vc_ SH0_ 518 2 o = o := vc_ok (by decide) rfl
theorem bqv_518 {β' : Type} {β : Type} {o : Option β} {f : _ → Option β'} : (vc_ SH0_ 518 2 o).bind f = (o).bind f := congrArg (fun o => Option.bind o f) (qv_518)
theorem qv_524 {β : Type} {o : Option β} : vc_ SH0_ 524 3 o = o := vc_ok (by decide) rfl
theorem bqv_524 {β' : Type} {β : Type} {o : Option β} {f : _ → Option β'} : (vc_ SH0_ 524 3 o).bind f = (o).bind f := congrArg (fun o => Option.bind o f) (qv_524)
theorem qv_528 {β : Type} {o : Option β} : vc_ SH0_ 528 6 o = o := vc_ok (by decide) rfl
theorem bqv_528 {β' : Type} {β : Type} {o : Option β} {f : _ → Option β'} : (vc_ SH0_ 528 6 o).bind f = (o).bind f := congrArg (fun o => Option.bind o f) (qv_528)
theorem qv_531 {β : Type} {o : Option β} : vc_ SH0_ 531 4 o = o := vc_ok (by decide) rfl
theorem bqv_531 {β' : Type} {β : Type} {o : Option β} {f : _ → Option β'} : (vc_ SH0_ 531 4 o).bind f = (o).bind f := congrArg (fun o => Option.bind o f) (qv_531)
theorem qv_535 {β : Type} {o : Option β} : vc_ SH0_ 535 7 o = o := vc_ok (by decide) rfl
theorem bqv_535 {β' : Type} {β : Type} {o : Option β} {f : _ → Option β'} : (vc_ SH0_ 535 7 o).bind f = (o).bind f := congrArg (fun o => Option.bind o f) (qv_535)
theorem qv_592 {β : Type} {o : Option β} : vc_ SH0_ 592 12 o = o := vc_ok (by decide) rfl
theorem bqv_592 {β' : Type} {β : Type} {o : Option β} {f : _ → Option β'} : (vc_ SH0_ 592 12 o).bind f = (o).bind f := congrArg (fun o => Option.bind o f) (qv_592)
theorem qi_2 {M : Mem_m} {i : Int} (h3 : 0 ≤ i) (h4 : i < 10) : aI_ SH0_ M 2 i = some (M 2 i.toNat) := aI_ok (N := 10) (by decide) rfl h3 h4
theorem bqi_2 {β' : Type} {M : Mem_m} {i : Int} (h3 : 0 ≤ i) (h4 : i < 10) {f : _ → Option β'} : (aI_ SH0_ M 2 i).bind f = f (M 2 i.toNat) := congrArg (fun o => Option.bind o f) (qi_2 h3 h4)
theorem qs_2 {M : Mem_m} {i v : Int} (h3 : 0 ≤ i) (h4 : i < 10) : sI_ SH0_ M 2 i v = some (st_m M 2 i.toNat v) := sI_ok (N := 10) (by decide) rfl h3 h4
theorem bqs_2 {β' : Type} {M : Mem_m} {i v : Int} (h3 : 0 ≤ i) (h4 : i < 10) {f : _ → Option β'} : (sI_ SH0_ M 2 i v).bind f = f (st_m M 2 i.toNat v) := congrArg (fun o => Option.bind o f) (qs_2 h3 h4)
theorem qi_3 {M : Mem_m} {i : Int} (h3 : 0 ≤ i) (h4 : i < 8) : aI_ SH0_ M 3 i = some (M 3 i.toNat) := aI_ok (N := 8) (by decide) rfl h3 h4
theorem bqi_3 {β' : Type} {M : Mem_m} {i : Int} (h3 : 0 ≤ i) (h4 : i < 8) {f : _ → Option β'} : (aI_ SH0_ M 3 i).bind f = f (M 3 i.toNat) := congrArg (fun o => Option.bind o f) (qi_3 h3 h4)
theorem qs_3 {M : Mem_m} {i v : Int} (h3 : 0 ≤ i) (h4 : i < 8) : sI_ SH0_ M 3 i v = some (st_m M 3 i.toNat v) := sI_ok (N := 8) (by decide) rfl h3 h4
theorem bqs_3 {β' : Type} {M : Mem_m} {i v : Int} (h3 : 0 ≤ i) (h4 : i < 8) {f : _ → Option β'} : (sI_ SH0_ M 3 i v).bind f = f (st_m M 3 i.toNat v) := congrArg (fun o => Option.bind o f) (qs_3 h3 h4)
theorem qi_4 {M : Mem_m} {i : Int} (h3 : 0 ≤ i) (h4 : i < 8) : aI_ SH0_ M 4 i = some (M 4 i.toNat) := aI_ok (N := 8) (by decide) rfl h3 h4
theorem bqi_4 {β' : Type} {M : Mem_m} {i : Int} (h3 : 0 ≤ i) (h4 : i < 8) {f : _ → Option β'} : (aI_ SH0_ M 4 i).bind f = f (M 4 i.toNat) := congrArg (fun o => Option.bind o f) (qi_4 h3 h4)
theorem qs_4 {M : Mem_m} {i v : Int} (h3 : 0 ≤ i) (h4 : i < 8) : sI_ SH0_ M 4 i v = some (st_m M 4 i.toNat v) := sI_ok (N := 8) (by decide) rfl h3 h4
theorem bqs_4 {β' : Type} {M : Mem_m} {i v : Int} (h3 : 0 ≤ i) (h4 : i < 8) {f : _ → Option β'} : (sI_ SH0_ M 4 i v).bind f = f (st_m M 4 i.toNat v) := congrArg (fun o => Option.bind o f) (qs_4 h3 h4)
theorem qi_10 {M : Mem_m} {i : Int} (h3 : 0 ≤ i) (h4 : i < 10) : aI_ SH0_ M 10 i = some (M 10 i.toNat) := aI_ok (N := 10) (by decide) rfl h3 h4
theorem bqi_10 {β' : Type} {M : Mem_m} {i : Int} (h3 : 0 ≤ i) (h4 : i < 10) {f : _ → Option β'} : (aI_ SH0_ M 10 i).bind f = f (M 10 i.toNat) := congrArg (fun o => Option.bind o f) (qi_10 h3 h4)
theorem qs_10 {M : Mem_m} {i v : Int} (h3 : 0 ≤ i) (h4 : i < 10) : sI_ SH0_ M 10 i v = some (st_m M 10 i.toNat v) := sI_ok (N := 10) (by decide) rfl h3 h4
theorem bqs_10 {β' : Type} {M : Mem_m} {i v : Int} (h3 : 0 ≤ i) (h4 : i < 10) {f : _ → Option β'} : (sI_ SH0_ M 10 i v).bind f = f (st_m M 10 i.toNat v) := congrArg (fun o => Option.bind o f) (qs_10 h3 h4)
theorem qi_519 {M : Mem_m} {i : Int} (h3 : 0 ≤ i) (h4 : i < 72) : aI_ SH0_ M 519 i = some (M 519 i.toNat) := aI_ok (N := 72) (by decide) rfl h3 h4
theorem bqi_519 {β' : Type} {M : Mem_m} {i : Int} (h3 : 0 ≤ i) (h4 : i < 72) {f : _ → Option β'} : (aI_ SH0_ M 519 i).bind f = f (M 519 i.toNat) := congrArg (fun o => Option.bind o f) (qi_519 h3 h4)
theorem qs_519 {M : Mem_m} {i v : Int} (h3 : 0 ≤ i) (h4 : i < 72) : sI_ SH0_ M 519 i v = some (st_m M 519 i.toNat v) := sI_ok (N := 72) (by decide) rfl h3 h4
theorem bqs_519 {β' : Type} {M : Mem_m} {i v : Int} (h3 : 0 ≤ i) (h4 : i < 72) {f : _ → Option β'} : (sI_ SH0_ M 519 i v).bind f = f (st_m M 519 i.toNat v) := congrArg (fun o => Option.bind o f) (qs_519 h3 h4)
theorem qi_520 {M : Mem_m} {i : Int} (h3 : 0 ≤ i) (h4 : i < 9) : aI_ SH0_ M 520 i = some (M 520 i.toNat) := aI_ok (N := 9) (by decide) rfl h3 h4
theorem bqi_520 {β' : Type} {M : Mem_m} {i : Int} (h3 : 0 ≤ i) (h4 : i < 9) {f : _ → Option β'} : (aI_ SH0_ M 520 i).bind f = f (M 520 i.toNat) := congrArg (fun o => Option.bind o f) (qi_520 h3 h4)
theorem qs_520 {M : Mem_m} {i v : Int} (h3 : 0 ≤ i) (h4 : i < 9) : sI_ SH0_ M 520 i v = some (st_m M 520 i.toNat v) := sI_ok (N := 9) (by decide) rfl h3 h4
theorem bqs_520 {β' : Type} {M : Mem_m} {i v : Int} (h3 : 0 ≤ i) (h4 : i < 9) {f : _ → Option β'} : (sI_ SH0_ M 520 i v).bind f = f (st_m M 520 i.toNat v) := congrArg (fun o => Option.bind o f) (qs_520 h3 h4)
theorem qi_521 {M : Mem_m} {i : Int} (h3 : 0 ≤ i) (h4 : i < 8) : aI_ SH0_ M 521 i = some (M 521 i.toNat) := aI_ok (N := 8) (by decide) rfl h3 h4
theorem bqi_521 {β' : Type} {M : Mem_m} {i : Int} (h3 : 0 ≤ i) (h4 : i < 8) {f : _ → Option β'} : (aI_ SH0_ M 521 i).bind f = f (M 521 i.toNat) := congrArg (fun o => Option.bind o f) (qi_521 h3 h4)
theorem qs_521 {M : Mem_m} {i v : Int} (h3 : 0 ≤ i) (h4 : i < 8) : sI_ SH0_ M 521 i v = some (st_m M 521 i.toNat v) := sI_ok (N := 8) (by decide) rfl h3 h4
theorem bqs_521 {β' : Type} {M : Mem_m} {i v : Int} (h3 : 0 ≤ i) (h4 : i < 8) {f : _ → Option β'} : (sI_ SH0_ M 521 i v).bind f = f (st_m M 521 i.toNat v) := congrArg (fun o => Option.bind o f) (qs_521 h3 h4)
theorem qi_522 {M : Mem_m} {i : Int} (h3 : 0 ≤ i) (h4 : i < 1024) : aI_ SH0_ M 522 i = some (M 522 i.toNat) := aI_ok (N := 1024) (by decide) rfl h3 h4
theorem bqi_522 {β' : Type} {M : Mem_m} {i : Int} (h3 : 0 ≤ i) (h4 : i < 1024) {f : _ → Option β'} : (aI_ SH0_ M 522 i).bind f = f (M 522 i.toNat) := congrArg (fun o => Option.bind o f) (qi_522 h3 h4)
theorem qs_522 {M : Mem_m} {i v : Int} (h3 : 0 ≤ i) (h4 : i < 1024) : sI_ SH0_ M 522 i v = some (st_m M 522 i.toNat v) := sI_ok (N := 1024) (by decide) rfl h3 h4
theorem bqs_522 {β' : Type} {M : Mem_m} {i v : Int} (h3 : 0 ≤ i) (h4 : i < 1024) {f : _ → Option β'} : (sI_ SH0_ M 522 i v).bind f = f (st_m M 522 i.toNat v) := congrArg (fun o => Option.bind o f) (qs_522 h3 h4)
theorem qi_523 {M : Mem_m} {i : Int} (h3 : 0 ≤ i) (h4 : i < 1024) : aI_ SH0_ M 523 i = some (M 523 i.toNat) := aI_ok (N := 1024) (by decide) rfl h3 h4
theorem bqi_523 {β' : Type} {M : Mem_m} {i : Int} (h3 : 0 ≤ i) (h4 : i < 1024) {f : _ → Option β'} : (aI_ SH0_ M 523 i).bind f = f (M 523 i.toNat) := congrArg (fun o => Option.bind o f) (qi_523 h3 h4)
theorem qs_523 {M : Mem_m} {i v : Int} (h3 : 0 ≤ i) (h4 : i < 1024) : sI_ SH0_ M 523 i v = some (st_m M 523 i.toNat v) := sI_ok (N := 1024) (by decide) rfl h3 h4
theorem bqs_523 {β' : Type} {M : Mem_m} {i v : Int} (h3 : 0 ≤ i) (h4 : i < 1024) {f : _ → Option β'} : (sI_ SH0_ M 523 i v).bind f = f (st_m M 523 i.toNat v) := congrArg (fun o => Option.bind o f) (qs_523 h3 h4)
theorem qi_525 {M : Mem_m} {i : Int} (h3 : 0 ≤ i) (h4 : i < 80) : aI_ SH0_ M 525 i = some (M 525 i.toNat) := aI_ok (N := 80) (by decide) rfl h3 h4
theorem bqi_525 {β' : Type} {M : Mem_m} {i : Int} (h3 : 0 ≤ i) (h4 : i < 80) {f : _ → Option β'} : (aI_ SH0_ M 525 i).bind f = f (M 525 i.toNat) := congrArg (fun o => Option.bind o f) (qi_525 h3 h4)
theorem qs_525 {M : Mem_m} {i v : Int} (h3 : 0 ≤ i) (h4 : i < 80) : sI_ SH0_ M 525 i v = some (st_m M 525 i.toNat v) := sI_ok (N := 80) (by decide) rfl h3 h4
theorem bqs_525 {β' : Type} {M : Mem_m} {i v : Int} (h3 : 0 ≤ i) (h4 : i < 80) {f : _ → Option β'} : (sI_ SH0_ M 525 i v).bind f = f (st_m M 525 i.toNat v) := congrArg (fun o => Option.bind o f) (qs_525 h3 h4)
theorem qi_526 {M : Mem_m} {i : Int} (h3 : 0 ≤ i) (h4 : i < 3) : aI_ SH0_ M 526 i = some (M 526 i.toNat) := aI_ok (N := 3) (by decide) rfl h3 h4
theorem bqi_526 {β' : Type} {M : Mem_m} {i : Int} (h3 : 0 ≤ i) (h4 : i < 3) {f : _ → Option β'} : (aI_ SH0_ M 526 i).bind f = f (M 526 i.toNat) := congrArg (fun o => Option.bind o f) (qi_526 h3 h4)
theorem qs_526 {M : Mem_m} {i v : Int} (h3 : 0 ≤ i) (h4 : i < 3) : sI_ SH0_ M 526 i v = some (st_m M 526 i.toNat v) := sI_ok (N := 3) (by decide) rfl h3 h4
theorem bqs_526 {β' : Type} {M : Mem_m} {i v : Int} (h3 : 0 ≤ i) (h4 : i < 3) {f : _ → Option β'} : (sI_ SH0_ M 526 i v).bind f = f (st_m M 526 i.toNat v) := congrArg (fun o => Option.bind o f) (qs_526 h3 h4)
theorem qi_527 {M : Mem_m} {i : Int} (h3 : 0 ≤ i) (h4 : i < 10) : aI_ SH0_ M 527 i = some (M 527 i.toNat) := aI_ok (N := 10) (by decide) rfl h3 h4
theorem bqi_527 {β' : Type} {M : Mem_m} {i : Int} (h3 : 0 ≤ i) (h4 : i < 10) {f : _ → Option β'} : (aI_ SH0_ M 527 i).bind f = f (M 527 i.toNat) := congrArg (fun o => Option.bind o f) (qi_527 h3 h4)
theorem qs_527 {M : Mem_m} {i v : Int} (h3 : 0 ≤ i) (h4 : i < 10) : sI_ SH0_ M 527 i v = some (st_m M 527 i.toNat v) := sI_ok (N := 10) (by decide) rfl h3 h4
theorem bqs_527 {β' : Type} {M : Mem_m} {i v : Int} (h3 : 0 ≤ i) (h4 : i < 10) {f : _ → Option β'} : (sI_ SH0_ M 527 i v).bind f = f (st_m M 527 i.toNat v) := congrArg (fun o => Option.bind o f) (qs_527 h3 h4)
theorem qi_529 {M : Mem_m} {i : Int} (h3 : 0 ≤ i) (h4 : i < 16) : aI_ SH0_ M 529 i = some (M 529 i.toNat) := aI_ok (N := 16) (by decide) rfl h3 h4
theorem bqi_529 {β' : Type} {M : Mem_m} {i : Int} (h3 : 0 ≤ i) (h4 : i < 16) {f : _ → Option β'} : (aI_ SH0_ M 529 i).bind f = f (M 529 i.toNat) := congrArg (fun o => Option.bind o f) (qi_529 h3 h4)
theorem qs_529 {M : Mem_m} {i v : Int} (h3 : 0 ≤ i) (h4 : i < 16) : sI_ SH0_ M 529 i v = some (st_m M 529 i.toNat v) := sI_ok (N := 16) (by decide) rfl h3 h4
theorem bqs_529 {β' : Type} {M : Mem_m} {i v : Int} (h3 : 0 ≤ i) (h4 : i < 16) {f : _ → Option β'} : (sI_ SH0_ M 529 i v).bind f = f (st_m M 529 i.toNat v) := congrArg (fun o => Option.bind o f) (qs_529 h3 h4)
theorem qi_530 {M : Mem_m} {i : Int} (h3 : 0 ≤ i) (h4 : i < 4) : aI_ SH0_ M 530 i = some (M 530 i.toNat) := aI_ok (N := 4) (by decide) rfl h3 h4
theorem bqi_530 {β' : Type} {M : Mem_m} {i : Int} (h3 : 0 ≤ i) (h4 : i < 4) {f : _ → Option β'} : (aI_ SH0_ M 530 i).bind f = f (M 530 i.toNat) := congrArg (fun o => Option.bind o f) (qi_530 h3 h4)
theorem qs_530 {M : Mem_m} {i v : Int} (h3 : 0 ≤ i) (h4 : i < 4) : sI_ SH0_ M 530 i v = some (st_m M 530 i.toNat v) := sI_ok (N := 4) (by decide) rfl h3 h4
theorem bqs_530 {β' : Type} {M : Mem_m} {i v : Int} (h3 : 0 ≤ i) (h4 : i < 4) {f : _ → Option β'} : (sI_ SH0_ M 530 i v).bind f = f (st_m M 530 i.toNat v) := congrArg (fun o => Option.bind o f) (qs_530 h3 h4)
theorem qi_532 {M : Mem_m} {i : Int} (h3 : 0 ≤ i) (h4 : i < 100) : aI_ SH0_ M 532 i = some (M 532 i.toNat) := aI_ok (N := 100) (by decide) rfl h3 h4
theorem bqi_532 {β' : Type} {M : Mem_m} {i : Int} (h3 : 0 ≤ i) (h4 : i < 100) {f : _ → Option β'} : (aI_ SH0_ M 532 i).bind f = f (M 532 i.toNat) := congrArg (fun o => Option.bind o f) (qi_532 h3 h4)
theorem qs_532 {M : Mem_m} {i v : Int} (h3 : 0 ≤ i) (h4 : i < 100) : sI_ SH0_ M 532 i v = some (st_m M 532 i.toNat v) := sI_ok (N := 100) (by decide) rfl h3 h4
theorem bqs_532 {β' : Type} {M : Mem_m} {i v : Int} (h3 : 0 ≤ i) (h4 : i < 100) {f : _ → Option β'} : (sI_ SH0_ M 532 i v).bind f = f (st_m M 532 i.toNat v) := congrArg (fun o => Option.bind o f) (qs_532 h3 h4)
theorem qi_533 {M : Mem_m} {i : Int} (h3 : 0 ≤ i) (h4 : i < 10) : aI_ SH0_ M 533 i = some (M 533 i.toNat) := aI_ok (N := 10) (by decide) rfl h3 h4
theorem bqi_533 {β' : Type} {M : Mem_m} {i : Int} (h3 : 0 ≤ i) (h4 : i < 10) {f : _ → Option β'} : (aI_ SH0_ M 533 i).bind f = f (M 533 i.toNat) := congrArg (fun o => Option.bind o f) (qi_533 h3 h4)
theorem qs_533 {M : Mem_m} {i v : Int} (h3 : 0 ≤ i) (h4 : i < 10) : sI_ SH0_ M 533 i v = some (st_m M 533 i.toNat v) := sI_ok (N := 10) (by decide) rfl h3 h4
theorem bqs_533 {β' : Type} {M : Mem_m} {i v : Int} (h3 : 0 ≤ i) (h4 : i < 10) {f : _ → Option β'} : (sI_ SH0_ M 533 i v).bind f = f (st_m M 533 i.toNat v) := congrArg (fun o => Option.bind o f) (qs_533 h3 h4)
theorem qi_534 {M : Mem_m} {i : Int} (h3 : 0 ≤ i) (h4 : i < 10) : aI_ SH0_ M 534 i = some (M 534 i.toNat) := aI_ok (N := 10) (by decide) rfl h3 h4
theorem bqi_534 {β' : Type} {M : Mem_m} {i : Int} (h3 : 0 ≤ i) (h4 : i < 10) {f : _ → Option β'} : (aI_ SH0_ M 534 i).bind f = f (M 534 i.toNat) := congrArg (fun o => Option.bind o f) (qi_534 h3 h4)
theorem qs_534 {M : Mem_m} {i v : Int} (h3 : 0 ≤ i) (h4 : i < 10) : sI_ SH0_ M 534 i v = some (st_m M 534 i.toNat v) := sI_ok (N := 10) (by decide) rfl h3 h4
theorem bqs_534 {β' : Type} {M : Mem_m} {i v : Int} (h3 : 0 ≤ i) (h4 : i < 10) {f : _ → Option β'} : (sI_ SH0_ M 534 i v).bind f = f (st_m M 534 i.toNat v) := congrArg (fun o => Option.bind o f) (qs_534 h3 h4)
theorem qi_593 {M : Mem_m} {i : Int} (h3 : 0 ≤ i) (h4 : i < 1067) : aI_ SH0_ M 593 i = some (M 593 i.toNat) := aI_ok (N := 1067) (by decide) rfl h3 h4
theorem bqi_593 {β' : Type} {M : Mem_m} {i : Int} (h3 : 0 ≤ i) (h4 : i < 1067) {f : _ → Option β'} : (aI_ SH0_ M 593 i).bind f = f (M 593 i.toNat) := congrArg (fun o => Option.bind o f) (qi_593 h3 h4)
theorem qs_593 {M : Mem_m} {i v : Int} (h3 : 0 ≤ i) (h4 : i < 1067) : sI_ SH0_ M 593 i v = some (st_m M 593 i.toNat v) := sI_ok (N := 1067) (by decide) rfl h3 h4
theorem bqs_593 {β' : Type} {M : Mem_m} {i v : Int} (h3 : 0 ≤ i) (h4 : i < 1067) {f : _ → Option β'} : (sI_ SH0_ M 593 i v).bind f = f (st_m M 593 i.toNat v) := congrArg (fun o => Option.bind o f) (qs_593 h3 h4)
theorem qi_594 {M : Mem_m} {i : Int} (h3 : 0 ≤ i) (h4 : i < 1067) : aI_ SH0_ M 594 i = some (M 594 i.toNat) := aI_ok (N := 1067) (by decide) rfl h3 h4
theorem bqi_594 {β' : Type} {M : Mem_m} {i : Int} (h3 : 0 ≤ i) (h4 : i < 1067) {f : _ → Option β'} : (aI_ SH0_ M 594 i).bind f = f (M 594 i.toNat) := congrArg (fun o => Option.bind o f) (qi_594 h3 h4)
theorem qs_594 {M : Mem_m} {i v : Int} (h3 : 0 ≤ i) (h4 : i < 1067) : sI_ SH0_ M 594 i v = some (st_m M 594 i.toNat v) := sI_ok (N := 1067) (by decide) rfl h3 h4
theorem bqs_594 {β' : Type} {M : Mem_m} {i v : Int} (h3 : 0 ≤ i) (h4 : i < 1067) {f : _ → Option β'} : (sI_ SH0_ M 594 i v).bind f = f (st_m M 594 i.toNat v) := congrArg (fun o => Option.bind o f) (qs_594 h3 h4)
theorem qi_595 {M : Mem_m} {i : Int} (h3 : 0 ≤ i) (h4 : i < 8) : aI_ SH0_ M 595 i = some (M 595 i.toNat) := aI_ok (N := 8) (by decide) rfl h3 h4
theorem bqi_595 {β' : Type} {M : Mem_m} {i : Int} (h3 : 0 ≤ i) (h4 : i < 8) {f : _ → Option β'} : (aI_ SH0_ M 595 i).bind f = f (M 595 i.toNat) := congrArg (fun o => Option.bind o f) (qi_595 h3 h4)
theorem qs_595 {M : Mem_m} {i v : Int} (h3 : 0 ≤ i) (h4 : i < 8) : sI_ SH0_ M 595 i v = some (st_m M 595 i.toNat v) := sI_ok (N := 8) (by decide) rfl h3 h4
theorem bqs_595 {β' : Type} {M : Mem_m} {i v : Int} (h3 : 0 ≤ i) (h4 : i < 8) {f : _ → Option β'} : (sI_ SH0_ M 595 i v).bind f = f (st_m M 595 i.toNat v) := congrArg (fun o => Option.bind o f) (qs_595 h3 h4)
theorem qi_596 {M : Mem_m} {i : Int} (h3 : 0 ≤ i) (h4 : i < 8) : aI_ SH0_ M 596 i = some (M 596 i.toNat) := aI_ok (N := 8) (by decide) rfl h3 h4
theorem bqi_596 {β' : Type} {M : Mem_m} {i : Int} (h3 : 0 ≤ i) (h4 : i < 8) {f : _ → Option β'} : (aI_ SH0_ M 596 i).bind f = f (M 596 i.toNat) := congrArg (fun o => Option.bind o f) (qi_596 h3 h4)
theorem qs_596 {M : Mem_m} {i v : Int} (h3 : 0 ≤ i) (h4 : i < 8) : sI_ SH0_ M 596 i v = some (st_m M 596 i.toNat v) := sI_ok (N := 8) (by decide) rfl h3 h4
theorem bqs_596 {β' : Type} {M : Mem_m} {i v : Int} (h3 : 0 ≤ i) (h4 : i < 8) {f : _ → Option β'} : (sI_ SH0_ M 596 i v).bind f = f (st_m M 596 i.toNat v) := congrArg (fun o => Option.bind o f) (qs_596 h3 h4)
theorem qi_597 {M : Mem_m} {i : Int} (h3 : 0 ≤ i) (h4 : i < 8) : aI_ SH0_ M 597 i = some (M 597 i.toNat) := aI_ok (N := 8) (by decide) rfl h3 h4
theorem bqi_597 {β' : Type} {M : Mem_m} {i : Int} (h3 : 0 ≤ i) (h4 : i < 8) {f : _ → Option β'} : (aI_ SH0_ M 597 i).bind f = f (M 597 i.toNat) := congrArg (fun o => Option.bind o f) (qi_597 h3 h4)
theorem qs_597 {M : Mem_m} {i v : Int} (h3 : 0 ≤ i) (h4 : i < 8) : sI_ SH0_ M 597 i v = some (st_m M 597 i.toNat v) := sI_ok (N := 8) (by decide) rfl h3 h4
theorem bqs_597 {β' : Type} {M : Mem_m} {i v : Int} (h3 : 0 ≤ i) (h4 : i < 8) {f : _ → Option β'} : (sI_ SH0_ M 597 i v).bind f = f (st_m M 597 i.toNat v) := congrArg (fun o => Option.bind o f) (qs_597 h3 h4)
theorem qi_598 {M : Mem_m} {i : Int} (h3 : 0 ≤ i) (h4 : i < 640) : aI_ SH0_ M 598 i = some (M 598 i.toNat) := aI_ok (N := 640) (by decide) rfl h3 h4
theorem bqi_598 {β' : Type} {M : Mem_m} {i : Int} (h3 : 0 ≤ i) (h4 : i < 640) {f : _ → Option β'} : (aI_ SH0_ M 598 i).bind f = f (M 598 i.toNat) := congrArg (fun o => Option.bind o f) (qi_598 h3 h4)
theorem qs_598 {M : Mem_m} {i v : Int} (h3 : 0 ≤ i) (h4 : i < 640) : sI_ SH0_ M 598 i v = some (st_m M 598 i.toNat v) := sI_ok (N := 640) (by decide) rfl h3 h4
theorem bqs_598 {β' : Type} {M : Mem_m} {i v : Int} (h3 : 0 ≤ i) (h4 : i < 640) {f : _ → Option β'} : (sI_ SH0_ M 598 i v).bind f = f (st_m M 598 i.toNat v) := congrArg (fun o => Option.bind o f) (qs_598 h3 h4)
theorem qi_599 {M : Mem_m} {i : Int} (h3 : 0 ≤ i) (h4 : i < 8) : aI_ SH0_ M 599 i = some (M 599 i.toNat) := aI_ok (N := 8) (by decide) rfl h3 h4
theorem bqi_599 {β' : Type} {M : Mem_m} {i : Int} (h3 : 0 ≤ i) (h4 : i < 8) {f : _ → Option β'} : (aI_ SH0_ M 599 i).bind f = f (M 599 i.toNat) := congrArg (fun o => Option.bind o f) (qi_599 h3 h4)
theorem qs_599 {M : Mem_m} {i v : Int} (h3 : 0 ≤ i) (h4 : i < 8) : sI_ SH0_ M 599 i v = some (st_m M 599 i.toNat v) := sI_ok (N := 8) (by decide) rfl h3 h4
theorem bqs_599 {β' : Type} {M : Mem_m} {i v : Int} (h3 : 0 ≤ i) (h4 : i < 8) {f : _ → Option β'} : (sI_ SH0_ M 599 i v).bind f = f (st_m M 599 i.toNat v) := congrArg (fun o => Option.bind o f) (qs_599 h3 h4)
theorem qi_600 {M : Mem_m} {i : Int} (h3 : 0 ≤ i) (h4 : i < 8) : aI_ SH0_ M 600 i = some (M 600 i.toNat) := aI_ok (N := 8) (by decide) rfl h3 h4
theorem bqi_600 {β' : Type} {M : Mem_m} {i : Int} (h3 : 0 ≤ i) (h4 : i < 8) {f : _ → Option β'} : (aI_ SH0_ M 600 i).bind f = f (M 600 i.toNat) := congrArg (fun o => Option.bind o f) (qi_600 h3 h4)
theorem qs_600 {M : Mem_m} {i v : Int} (h3 : 0 ≤ i) (h4 : i < 8) : sI_ SH0_ M 600 i v = some (st_m M 600 i.toNat v) := sI_ok (N := 8) (by decide) rfl h3 h4
theorem bqs_600 {β' : Type} {M : Mem_m} {i v : Int} (h3 : 0 ≤ i) (h4 : i < 8) {f : _ → Option β'} : (sI_ SH0_ M 600 i v).bind f = f (st_m M 600 i.toNat v) := congrArg (fun o => Option.bind o f) (qs_600 h3 h4)
theorem qi_601 {M : Mem_m} {i : Int} (h3 : 0 ≤ i) (h4 : i < 9) : aI_ SH0_ M 601 i = some (M 601 i.toNat) := aI_ok (N := 9) (by decide) rfl h3 h4
theorem bqi_601 {β' : Type} {M : Mem_m} {i : Int} (h3 : 0 ≤ i) (h4 : i < 9) {f : _ → Option β'} : (aI_ SH0_ M 601 i).bind f = f (M 601 i.toNat) := congrArg (fun o => Option.bind o f) (qi_601 h3 h4)
theorem qs_601 {M : Mem_m} {i v : Int} (h3 : 0 ≤ i) (h4 : i < 9) : sI_ SH0_ M 601 i v = some (st_m M 601 i.toNat v) := sI_ok (N := 9) (by decide) rfl h3 h4
theorem bqs_601 {β' : Type} {M : Mem_m} {i v : Int} (h3 : 0 ≤ i) (h4 : i < 9) {f : _ → Option β'} : (sI_ SH0_ M 601 i v).bind f = f (st_m M 601 i.toNat v) := congrArg (fun o => Option.bind o f) (qs_601 h3 h4)
theorem qi_602 {M : Mem_m} {i : Int} (h3 : 0 ≤ i) (h4 : i < 9) : aI_ SH0_ M 602 i = some (M 602 i.toNat) := aI_ok (N := 9) (by decide) rfl h3 h4
theorem bqi_602 {β' : Type} {M : Mem_m} {i : Int} (h3 : 0 ≤ i) (h4 : i < 9) {f : _ → Option β'} : (aI_ SH0_ M 602 i).bind f = f (M 602 i.toNat) := congrArg (fun o => Option.bind o f) (qi_602 h3 h4)
theorem qs_602 {M : Mem_m} {i v : Int} (h3 : 0 ≤ i) (h4 : i < 9) : sI_ SH0_ M 602 i v = some (st_m M 602 i.toNat v) := sI_ok (N := 9) (by decide) rfl h3 h4
theorem bqs_602 {β' : Type} {M : Mem_m} {i v : Int} (h3 : 0 ≤ i) (h4 : i < 9) {f : _ → Option β'} : (sI_ SH0_ M 602 i v).bind f = f (st_m M 602 i.toNat v) := congrArg (fun o => Option.bind o f) (qs_602 h3 h4)
theorem qi_603 {M : Mem_m} {i : Int} (h3 : 0 ≤ i) (h4 : i < 10) : aI_ SH0_ M 603 i = some (M 603 i.toNat) := aI_ok (N := 10) (by decide) rfl h3 h4
theorem bqi_603 {β' : Type} {M : Mem_m} {i : Int} (h3 : 0 ≤ i) (h4 : i < 10) {f : _ → Option β'} : (aI_ SH0_ M 603 i).bind f = f (M 603 i.toNat) := congrArg (fun o => Option.bind o f) (qi_603 h3 h4)
theorem qs_603 {M : Mem_m} {i v : Int} (h3 : 0 ≤ i) (h4 : i < 10) : sI_ SH0_ M 603 i v = some (st_m M 603 i.toNat v) := sI_ok (N := 10) (by decide) rfl h3 h4
theorem bqs_603 {β' : Type} {M : Mem_m} {i v : Int} (h3 : 0 ≤ i) (h4 : i < 10) {f : _ → Option β'} : (sI_ SH0_ M 603 i v).bind f = f (st_m M 603 i.toNat v) := congrArg (fun o => Option.bind o f) (qs_603 h3 h4)
theorem qi_604 {M : Mem_m} {i : Int} (h3 : 0 ≤ i) (h4 : i < 8) : aI_ SH0_ M 604 i = some (M 604 i.toNat) := aI_ok (N := 8) (by decide) rfl h3 h4
theorem bqi_604 {β' : Type} {M : Mem_m} {i : Int} (h3 : 0 ≤ i) (h4 : i < 8) {f : _ → Option β'} : (aI_ SH0_ M 604 i).bind f = f (M 604 i.toNat) := congrArg (fun o => Option.bind o f) (qi_604 h3 h4)
theorem qs_604 {M : Mem_m} {i v : Int} (h3 : 0 ≤ i) (h4 : i < 8) : sI_ SH0_ M 604 i v = some (st_m M 604 i.toNat v) := sI_ok (N := 8) (by decide) rfl h3 h4
theorem bqs_604 {β' : Type} {M : Mem_m} {i v : Int} (h3 : 0 ≤ i) (h4 : i < 8) {f : _ → Option β'} : (sI_ SH0_ M 604 i v).bind f = f (st_m M 604 i.toNat v) := congrArg (fun o => Option.bind o f) (qs_604 h3 h4)
theorem qi_605 {M : Mem_m} {i : Int} (h3 : 0 ≤ i) (h4 : i < 80) : aI_ SH0_ M 605 i = some (M 605 i.toNat) := aI_ok (N := 80) (by decide) rfl h3 h4
theorem bqi_605 {β' : Type} {M : Mem_m} {i : Int} (h3 : 0 ≤ i) (h4 : i < 80) {f : _ → Option β'} : (aI_ SH0_ M 605 i).bind f = f (M 605 i.toNat) := congrArg (fun o => Option.bind o f) (qi_605 h3 h4)
theorem qs_605 {M : Mem_m} {i v : Int} (h3 : 0 ≤ i) (h4 : i < 80) : sI_ SH0_ M 605 i v = some (st_m M 605 i.toNat v) := sI_ok (N := 80) (by decide) rfl h3 h4
theorem bqs_605 {β' : Type} {M : Mem_m} {i v : Int} (h3 : 0 ≤ i) (h4 : i < 80) {f : _ → Option β'} : (sI_ SH0_ M 605 i v).bind f = f (st_m M 605 i.toNat v) := congrArg (fun o => Option.bind o f) (qs_605 h3 h4)
theorem qi_606 {M : Mem_m} {i : Int} (h3 : 0 ≤ i) (h4 : i < 80) : aI_ SH0_ M 606 i = some (M 606 i.toNat) := aI_ok (N := 80) (by decide) rfl h3 h4
theorem bqi_606 {β' : Type} {M : Mem_m} {i : Int} (h3 : 0 ≤ i) (h4 : i < 80) {f : _ → Option β'} : (aI_ SH0_ M 606 i).bind f = f (M 606 i.toNat) := congrArg (fun o => Option.bind o f) (qi_606 h3 h4)
theorem qs_606 {M : Mem_m} {i v : Int} (h3 : 0 ≤ i) (h4 : i < 80) : sI_ SH0_ M 606 i v = some (st_m M 606 i.toNat v) := sI_ok (N := 80) (by decide) rfl h3 h4
theorem bqs_606 {β' : Type} {M : Mem_m} {i v : Int} (h3 : 0 ≤ i) (h4 : i < 80) {f : _ → Option β'} : (sI_ SH0_ M 606 i v).bind f = f (st_m M 606 i.toNat v) := congrArg (fun o => Option.bind o f) (qs_606 h3 h4)
theorem qi_608 {M : Mem_m} {i : Int} (h3 : 0 ≤ i) (h4 : i < 10) : aI_ SH0_ M 608 i = some (M 608 i.toNat) := aI_ok (N := 10) (by decide) rfl h3 h4
theorem bqi_608 {β' : Type} {M : Mem_m} {i : Int} (h3 : 0 ≤ i) (h4 : i < 10) {f : _ → Option β'} : (aI_ SH0_ M 608 i).bind f = f (M 608 i.toNat) := congrArg (fun o => Option.bind o f) (qi_608 h3 h4)
theorem qs_608 {M : Mem_m} {i v : Int} (h3 : 0 ≤ i) (h4 : i < 10) : sI_ SH0_ M 608 i v = some (st_m M 608 i.toNat v) := sI_ok (N := 10) (by decide) rfl h3 h4
theorem bqs_608 {β' : Type} {M : Mem_m} {i v : Int} (h3 : 0 ≤ i) (h4 : i < 10) {f : _ → Option β'} : (sI_ SH0_ M 608 i v).bind f = f (st_m M 608 i.toNat v) := congrArg (fun o => Option.bind o f) (qs_608 h3 h4)
theorem qi_609 {M : Mem_m} {i : Int} (h3 : 0 ≤ i) (h4 : i < 100) : aI_ SH0_ M 609 i = some (M 609 i.toNat) := aI_ok (N := 100) (by decide) rfl h3 h4
theorem bqi_609 {β' : Type} {M : Mem_m} {i : Int} (h3 : 0 ≤ i) (h4 : i < 100) {f : _ → Option β'} : (aI_ SH0_ M 609 i).bind f = f (M 609 i.toNat) := congrArg (fun o => Option.bind o f) (qi_609 h3 h4)
theorem qs_609 {M : Mem_m} {i v : Int} (h3 : 0 ≤ i) (h4 : i < 100) : sI_ SH0_ M 609 i v = some (st_m M 609 i.toNat v) := sI_ok (N := 100) (by decide) rfl h3 h4
theorem bqs_609 {β' : Type} {M : Mem_m} {i v : Int} (h3 : 0 ≤ i) (h4 : i < 100) {f : _ → Option β'} : (sI_ SH0_ M 609 i v).bind f = f (st_m M 609 i.toNat v) := congrArg (fun o => Option.bind o f) (qs_609 h3 h4)
theorem qi_610 {M : Mem_m} {i : Int} (h3 : 0 ≤ i) (h4 : i < 10) : aI_ SH0_ M 610 i = some (M 610 i.toNat) := aI_ok (N := 10) (by decide) rfl h3 h4
theorem bqi_610 {β' : Type} {M : Mem_m} {i : Int} (h3 : 0 ≤ i) (h4 : i < 10) {f : _ → Option β'} : (aI_ SH0_ M 610 i).bind f = f (M 610 i.toNat) := congrArg (fun o => Option.bind o f) (qi_610 h3 h4)
theorem qs_610 {M : Mem_m} {i v : Int} (h3 : 0 ≤ i) (h4 : i < 10) : sI_ SH0_ M 610 i v = some (st_m M 610 i.toNat v) := sI_ok (N := 10) (by decide) rfl h3 h4
theorem bqs_610 {β' : Type} {M : Mem_m} {i v : Int} (h3 : 0 ≤ i) (h4 : i < 10) {f : _ → Option β'} : (sI_ SH0_ M 610 i v).bind f = f (st_m M 610 i.toNat v) := congrArg (fun o => Option.bind o f) (qs_610 h3 h4)
theorem qz_607 {M : Mem_m} {i : Int} (h3 : 0 ≤ i) (h4 : i < 24) : aZ_ SH0_ M 607 i = some (M 607 i.toNat) := aZ_ok (N := 24) (by decide) rfl h3 h4
theorem bqz_607 {β' : Type} {M : Mem_m} {i : Int} (h3 : 0 ≤ i) (h4 : i < 24) {f : _ → Option β'} : (aZ_ SH0_ M 607 i).bind f = f (M 607 i.toNat) := congrArg (fun o => Option.bind o f) (qz_607 h3 h4)
theorem qt_607 {M : Mem_m} {i v : Int} (h3 : 0 ≤ i) (h4 : i < 24) (hv : v = 0 ∨ v = 1) : sZ_ SH0_ M 607 i v = some (st_m M 607 i.toNat v) := sZ_ok (N := 24) (by decide) rfl h3 h4 hv
theorem bqt_607 {β' : Type} {M : Mem_m} {i v : Int} (h3 : 0 ≤ i) (h4 : i < 24) (hv : v = 0 ∨ v = 1) {f : _ → Option β'} : (sZ_ SH0_ M 607 i v).bind f = f (st_m M 607 i.toNat v) := congrArg (fun o => Option.bind o f) (qt_607 h3 h4 hv)
theorem wr_n {x : Int} (h1 : -2147483648 ≤ x) (h2 : x ≤ 2147483647) : wr_i x = x := wr_id ⟨h1, h2⟩
