def f_L_day_j284 (k202 : (Int32 × Int32 × TV48s × TV48s × TV48s × TV48s × TV32s × TV32s × TV10s) → Option (Int32 × TV48s × TV48s × TV48s × TV48s × TV32s × TV32s × TV10s)) (v202 : Int32 × Int32 × TV48s × TV48s × TV48s × TV48s × TV32s × TV32s × TV10s) (w260 : Int32) (w284 : Int32) : Option (Int32 × TV48s × TV48s × TV48s × TV48s × TV32s × TV32s × TV10s) :=
if v202.2.1 < 0 ∨ 32 ≤ (v202.2.1).toNatClampNeg then none else
if ((upd v202.2.2.2.2.2.2.2.1 (v202.2.1).toNatClampNeg w260) (v202.2.1).toNatClampNeg) = 0 then (
if v202.2.1 < 0 ∨ 32 ≤ (v202.2.1).toNatClampNeg then none else
k202 ((v202.1 + w284), (v202.2.1 + 1), v202.2.2.1, v202.2.2.2.1, v202.2.2.2.2.1, v202.2.2.2.2.2.1, (upd v202.2.2.2.2.2.2.1 (v202.2.1).toNatClampNeg 0), (upd v202.2.2.2.2.2.2.2.1 (v202.2.1).toNatClampNeg w260), v202.2.2.2.2.2.2.2.2))
else (
if v202.2.1 < 0 ∨ 32 ≤ (v202.2.1).toNatClampNeg then none else
if v202.2.1 < 0 ∨ 32 ≤ (v202.2.1).toNatClampNeg then none else
k202 ((v202.1 + w284), (v202.2.1 + 1), v202.2.2.1, v202.2.2.2.1, v202.2.2.2.2.1, v202.2.2.2.2.2.1, (upd v202.2.2.2.2.2.2.1 (v202.2.1).toNatClampNeg (v202.2.2.2.2.2.2.1 (v202.2.1).toNatClampNeg)), (upd v202.2.2.2.2.2.2.2.1 (v202.2.1).toNatClampNeg w260), v202.2.2.2.2.2.2.2.2))
def f_L_day_j283 (k202 : (Int32 × Int32 × TV48s × TV48s × TV48s × TV48s × TV32s × TV32s × TV10s) → Option (Int32 × TV48s × TV48s × TV48s × TV48s × TV32s × TV32s × TV10s)) (v202 : Int32 × Int32 × TV48s × TV48s × TV48s × TV48s × TV32s × TV32s × TV10s) (w260 : Int32) (w283 : Unit) : Option (Int32 × TV48s × TV48s × TV48s × TV48s × TV32s × TV32s × TV10s) :=
f_L_day_j284 k202 v202 w260 0
def f_L_day_j260 (k202 : (Int32 × Int32 × TV48s × TV48s × TV48s × TV48s × TV32s × TV32s × TV10s) → Option (Int32 × TV48s × TV48s × TV48s × TV48s × TV32s × TV32s × TV10s)) (v202 : Int32 × Int32 × TV48s × TV48s × TV48s × TV48s × TV32s × TV32s × TV10s) (w260 : Int32) : Option (Int32 × TV48s × TV48s × TV48s × TV48s × TV32s × TV32s × TV10s) :=
if v202.2.1 < 0 ∨ 32 ≤ (v202.2.1).toNatClampNeg then none else
if v202.2.1 < 0 ∨ 32 ≤ (v202.2.1).toNatClampNeg then none else
if (v202.2.2.2.2.2.2.1 (v202.2.1).toNatClampNeg) ≤ 0 then (
f_L_day_j283 k202 v202 w260 ())
else (
if v202.2.1 < 0 ∨ 32 ≤ (v202.2.1).toNatClampNeg then none else
if ((upd v202.2.2.2.2.2.2.2.1 (v202.2.1).toNatClampNeg w260) (v202.2.1).toNatClampNeg) = 0 then (
f_L_day_j284 k202 v202 w260 1)
else (
f_L_day_j283 k202 v202 w260 ()))
def f_L_day_l202 (k202 : (Int32 × Int32 × TV48s × TV48s × TV48s × TV48s × TV32s × TV32s × TV10s) → Option (Int32 × TV48s × TV48s × TV48s × TV48s × TV32s × TV32s × TV10s)) (v202 : Int32 × Int32 × TV48s × TV48s × TV48s × TV48s × TV32s × TV32s × TV10s) : Option (Int32 × TV48s × TV48s × TV48s × TV48s × TV32s × TV32s × TV10s) :=
if 32 ≤ v202.2.1 then (
if (6 : Int32) < 0 ∨ 10 ≤ (6 : Int32).toNatClampNeg then none else
if (6 : Int32) < 0 ∨ 10 ≤ (6 : Int32).toNatClampNeg then none else
if (9 : Int32) < 0 ∨ 10 ≤ (9 : Int32).toNatClampNeg then none else
if (9 : Int32) < 0 ∨ 10 ≤ (9 : Int32).toNatClampNeg then none else
some (v202.1, v202.2.2.1, v202.2.2.2.1, v202.2.2.2.2.1, v202.2.2.2.2.2.1, v202.2.2.2.2.2.2.1, v202.2.2.2.2.2.2.2.1, (upd (upd v202.2.2.2.2.2.2.2.2 (6 : Int32).toNatClampNeg ((v202.2.2.2.2.2.2.2.2 (6 : Int32).toNatClampNeg) + 1)) (9 : Int32).toNatClampNeg (((upd v202.2.2.2.2.2.2.2.2 (6 : Int32).toNatClampNeg ((v202.2.2.2.2.2.2.2.2 (6 : Int32).toNatClampNeg) + 1)) (9 : Int32).toNatClampNeg) + v202.1))))
else (
if (2 + (v202.2.1 / 16)) < 0 ∨ 10 ≤ (2 + (v202.2.1 / 16)).toNatClampNeg then none else
if (3 + (v202.2.1 / 16)) < 0 ∨ 10 ≤ (3 + (v202.2.1 / 16)).toNatClampNeg then none else
if v202.2.1 < 0 ∨ 32 ≤ (v202.2.1).toNatClampNeg then none else
if (((v202.2.2.2.2.2.2.2.2 (2 + (v202.2.1 / 16)).toNatClampNeg) + (v202.2.2.2.2.2.2.2.2 (3 + (v202.2.1 / 16)).toNatClampNeg)) / 2) ≤ (v202.2.2.2.2.2.2.2.1 (v202.2.1).toNatClampNeg) then (
if v202.2.1 < 0 ∨ 32 ≤ (v202.2.1).toNatClampNeg then none else
f_L_day_j260 k202 v202 ((v202.2.2.2.2.2.2.2.1 (v202.2.1).toNatClampNeg) - (((v202.2.2.2.2.2.2.2.2 (2 + (v202.2.1 / 16)).toNatClampNeg) + (v202.2.2.2.2.2.2.2.2 (3 + (v202.2.1 / 16)).toNatClampNeg)) / 2)))
else (
f_L_day_j260 k202 v202 0))
def f_L_day_j173 (k6 : (Int32 × Int32 × TV48s × TV48s × TV48s × TV48s × TV32s × TV32s × TV10s) → Option (Int32 × TV48s × TV48s × TV48s × TV48s × TV32s × TV32s × TV10s)) (v6 : Int32 × Int32 × TV48s × TV48s × TV48s × TV48s × TV32s × TV32s × TV10s) (w86 : Int32) (w110 : Int32) (w132 : Int32) (w151 : Int32) (w173 : Int32) : Option (Int32 × TV48s × TV48s × TV48s × TV48s × TV32s × TV32s × TV10s) :=
if v6.2.1 < 0 ∨ 48 ≤ (v6.2.1).toNatClampNeg then none else
if v6.2.1 < 0 ∨ 48 ≤ (v6.2.1).toNatClampNeg then none else
if ((upd v6.2.2.2.2.2.1 (v6.2.1).toNatClampNeg w110) (v6.2.1).toNatClampNeg) = 0 then (
if v6.2.1 < 0 ∨ 48 ≤ (v6.2.1).toNatClampNeg then none else
k6 ((v6.1 + (w132 + w151)), (v6.2.1 + 1), (upd v6.2.2.1 (v6.2.1).toNatClampNeg w173), (upd v6.2.2.2.1 (v6.2.1).toNatClampNeg w86), (upd v6.2.2.2.2.1 (v6.2.1).toNatClampNeg (-1)), (upd v6.2.2.2.2.2.1 (v6.2.1).toNatClampNeg w110), v6.2.2.2.2.2.2.1, v6.2.2.2.2.2.2.2.1, v6.2.2.2.2.2.2.2.2))
else (
if v6.2.1 < 0 ∨ 48 ≤ (v6.2.1).toNatClampNeg then none else
if v6.2.1 < 0 ∨ 48 ≤ (v6.2.1).toNatClampNeg then none else
k6 ((v6.1 + (w132 + w151)), (v6.2.1 + 1), (upd v6.2.2.1 (v6.2.1).toNatClampNeg w173), (upd v6.2.2.2.1 (v6.2.1).toNatClampNeg w86), (upd v6.2.2.2.2.1 (v6.2.1).toNatClampNeg (v6.2.2.2.2.1 (v6.2.1).toNatClampNeg)), (upd v6.2.2.2.2.2.1 (v6.2.1).toNatClampNeg w110), v6.2.2.2.2.2.2.1, v6.2.2.2.2.2.2.2.1, v6.2.2.2.2.2.2.2.2))
def f_L_day_j151 (k6 : (Int32 × Int32 × TV48s × TV48s × TV48s × TV48s × TV32s × TV32s × TV10s) → Option (Int32 × TV48s × TV48s × TV48s × TV48s × TV32s × TV32s × TV10s)) (v6 : Int32 × Int32 × TV48s × TV48s × TV48s × TV48s × TV32s × TV32s × TV10s) (w86 : Int32) (w110 : Int32) (w132 : Int32) (w151 : Int32) : Option (Int32 × TV48s × TV48s × TV48s × TV48s × TV32s × TV32s × TV10s) :=
if v6.2.1 < 0 ∨ 48 ≤ (v6.2.1).toNatClampNeg then none else
if ((upd v6.2.2.2.1 (v6.2.1).toNatClampNeg w86) (v6.2.1).toNatClampNeg) = 0 then (
f_L_day_j173 k6 v6 w86 w110 w132 w151 (-1))
else (
if v6.2.1 < 0 ∨ 48 ≤ (v6.2.1).toNatClampNeg then none else
f_L_day_j173 k6 v6 w86 w110 w132 w151 (v6.2.2.1 (v6.2.1).toNatClampNeg))
def f_L_day_j150 (k6 : (Int32 × Int32 × TV48s × TV48s × TV48s × TV48s × TV32s × TV32s × TV10s) → Option (Int32 × TV48s × TV48s × TV48s × TV48s × TV32s × TV32s × TV10s)) (v6 : Int32 × Int32 × TV48s × TV48s × TV48s × TV48s × TV32s × TV32s × TV10s) (w86 : Int32) (w110 : Int32) (w132 : Int32) (w150 : Unit) : Option (Int32 × TV48s × TV48s × TV48s × TV48s × TV32s × TV32s × TV10s) :=
f_L_day_j151 k6 v6 w86 w110 w132 0
def f_L_day_j132 (k6 : (Int32 × Int32 × TV48s × TV48s × TV48s × TV48s × TV32s × TV32s × TV10s) → Option (Int32 × TV48s × TV48s × TV48s × TV48s × TV32s × TV32s × TV10s)) (v6 : Int32 × Int32 × TV48s × TV48s × TV48s × TV48s × TV32s × TV32s × TV10s) (w86 : Int32) (w110 : Int32) (w132 : Int32) : Option (Int32 × TV48s × TV48s × TV48s × TV48s × TV32s × TV32s × TV10s) :=
if v6.2.1 < 0 ∨ 48 ≤ (v6.2.1).toNatClampNeg then none else
if (v6.2.2.2.2.1 (v6.2.1).toNatClampNeg) < 0 then (
f_L_day_j150 k6 v6 w86 w110 w132 ())
else (
if v6.2.1 < 0 ∨ 48 ≤ (v6.2.1).toNatClampNeg then none else
if ((upd v6.2.2.2.2.2.1 (v6.2.1).toNatClampNeg w110) (v6.2.1).toNatClampNeg) = 0 then (
f_L_day_j151 k6 v6 w86 w110 w132 1)
else (
f_L_day_j150 k6 v6 w86 w110 w132 ()))
def f_L_day_j131 (k6 : (Int32 × Int32 × TV48s × TV48s × TV48s × TV48s × TV32s × TV32s × TV10s) → Option (Int32 × TV48s × TV48s × TV48s × TV48s × TV32s × TV32s × TV10s)) (v6 : Int32 × Int32 × TV48s × TV48s × TV48s × TV48s × TV32s × TV32s × TV10s) (w86 : Int32) (w110 : Int32) (w131 : Unit) : Option (Int32 × TV48s × TV48s × TV48s × TV48s × TV32s × TV32s × TV10s) :=
f_L_day_j132 k6 v6 w86 w110 0
def f_L_day_j110 (k6 : (Int32 × Int32 × TV48s × TV48s × TV48s × TV48s × TV32s × TV32s × TV10s) → Option (Int32 × TV48s × TV48s × TV48s × TV48s × TV32s × TV32s × TV10s)) (v6 : Int32 × Int32 × TV48s × TV48s × TV48s × TV48s × TV32s × TV32s × TV10s) (w86 : Int32) (w110 : Int32) : Option (Int32 × TV48s × TV48s × TV48s × TV48s × TV32s × TV32s × TV10s) :=
if v6.2.1 < 0 ∨ 48 ≤ (v6.2.1).toNatClampNeg then none else
if v6.2.1 < 0 ∨ 48 ≤ (v6.2.1).toNatClampNeg then none else
if (v6.2.2.1 (v6.2.1).toNatClampNeg) < 0 then (
f_L_day_j131 k6 v6 w86 w110 ())
else (
if v6.2.1 < 0 ∨ 48 ≤ (v6.2.1).toNatClampNeg then none else
if ((upd v6.2.2.2.1 (v6.2.1).toNatClampNeg w86) (v6.2.1).toNatClampNeg) = 0 then (
f_L_day_j132 k6 v6 w86 w110 1)
else (
f_L_day_j131 k6 v6 w86 w110 ()))
def f_L_day_j86 (k6 : (Int32 × Int32 × TV48s × TV48s × TV48s × TV48s × TV32s × TV32s × TV10s) → Option (Int32 × TV48s × TV48s × TV48s × TV48s × TV32s × TV32s × TV10s)) (v6 : Int32 × Int32 × TV48s × TV48s × TV48s × TV48s × TV32s × TV32s × TV10s) (w61 : Int32) (w86 : Int32) : Option (Int32 × TV48s × TV48s × TV48s × TV48s × TV32s × TV32s × TV10s) :=
if v6.2.1 < 0 ∨ 48 ≤ (v6.2.1).toNatClampNeg then none else
if v6.2.1 < 0 ∨ 48 ≤ (v6.2.1).toNatClampNeg then none else
if w61 ≤ (v6.2.2.2.2.2.1 (v6.2.1).toNatClampNeg) then (
if v6.2.1 < 0 ∨ 48 ≤ (v6.2.1).toNatClampNeg then none else
f_L_day_j110 k6 v6 w86 ((v6.2.2.2.2.2.1 (v6.2.1).toNatClampNeg) - w61))
else (
f_L_day_j110 k6 v6 w86 0)
def f_L_day_j61 (k6 : (Int32 × Int32 × TV48s × TV48s × TV48s × TV48s × TV32s × TV32s × TV10s) → Option (Int32 × TV48s × TV48s × TV48s × TV48s × TV32s × TV32s × TV10s)) (v6 : Int32 × Int32 × TV48s × TV48s × TV48s × TV48s × TV32s × TV32s × TV10s) (w61 : Int32) : Option (Int32 × TV48s × TV48s × TV48s × TV48s × TV32s × TV32s × TV10s) :=
if v6.2.1 < 0 ∨ 48 ≤ (v6.2.1).toNatClampNeg then none else
if w61 ≤ (v6.2.2.2.1 (v6.2.1).toNatClampNeg) then (
if v6.2.1 < 0 ∨ 48 ≤ (v6.2.1).toNatClampNeg then none else
f_L_day_j86 k6 v6 w61 ((v6.2.2.2.1 (v6.2.1).toNatClampNeg) - w61))
else (
f_L_day_j86 k6 v6 w61 0)
def f_L_day_j59 (k6 : (Int32 × Int32 × TV48s × TV48s × TV48s × TV48s × TV32s × TV32s × TV10s) → Option (Int32 × TV48s × TV48s × TV48s × TV48s × TV32s × TV32s × TV10s)) (v6 : Int32 × Int32 × TV48s × TV48s × TV48s × TV48s × TV32s × TV32s × TV10s) (w59 : Unit) : Option (Int32 × TV48s × TV48s × TV48s × TV48s × TV32s × TV32s × TV10s) :=
f_L_day_j61 k6 v6 (v6.2.2.2.2.2.2.2.2 (2 + (v6.2.1 / 16)).toNatClampNeg)
def f_L_day_j40 (k6 : (Int32 × Int32 × TV48s × TV48s × TV48s × TV48s × TV32s × TV32s × TV10s) → Option (Int32 × TV48s × TV48s × TV48s × TV48s × TV32s × TV32s × TV10s)) (v6 : Int32 × Int32 × TV48s × TV48s × TV48s × TV48s × TV32s × TV32s × TV10s) (w40 : Unit) : Option (Int32 × TV48s × TV48s × TV48s × TV48s × TV32s × TV32s × TV10s) :=
(f_L_read v6.2.2.2.2.1 v6.2.2.2.2.2.1 v6.2.2.2.2.2.2.2.2 v6.2.1).bind fun t53 =>
if t53 = 0 then (
f_L_day_j59 k6 v6 ())
else (
f_L_day_j61 k6 v6 ((v6.2.2.2.2.2.2.2.2 (2 + (v6.2.1 / 16)).toNatClampNeg) / 2))
def f_L_day_l6 (k6 : (Int32 × Int32 × TV48s × TV48s × TV48s × TV48s × TV32s × TV32s × TV10s) → Option (Int32 × TV48s × TV48s × TV48s × TV48s × TV32s × TV32s × TV10s)) (v6 : Int32 × Int32 × TV48s × TV48s × TV48s × TV48s × TV32s × TV32s × TV10s) : Option (Int32 × TV48s × TV48s × TV48s × TV48s × TV32s × TV32s × TV10s) :=
if 48 ≤ v6.2.1 then (
lpN f_L_day_l202 3000 (v6.1, 0, v6.2.2.1, v6.2.2.2.1, v6.2.2.2.2.1, v6.2.2.2.2.2.1, v6.2.2.2.2.2.2.1, v6.2.2.2.2.2.2.2.1, v6.2.2.2.2.2.2.2.2))
else (
if (2 + (v6.2.1 / 16)) < 0 ∨ 10 ≤ (2 + (v6.2.1 / 16)).toNatClampNeg then none else
if v6.2.1 < 0 ∨ 48 ≤ (v6.2.1).toNatClampNeg then none else
if (v6.2.2.2.2.1 (v6.2.1).toNatClampNeg) = 0 then (
f_L_day_j40 k6 v6 ())
else (
if v6.2.1 < 0 ∨ 48 ≤ (v6.2.1).toNatClampNeg then none else
if (v6.2.2.2.2.1 (v6.2.1).toNatClampNeg) = 1 then (
f_L_day_j40 k6 v6 ())
else (
f_L_day_j59 k6 v6 ())))
def f_L_day (x : TV48s) (y : TV48s) (z3 : TV48s) (z4 : TV48s) (z5 : TV32s) (z6 : TV32s) (z7 : TV10s) : Option (Int32 × TV48s × TV48s × TV48s × TV48s × TV32s × TV32s × TV10s) :=
lpN f_L_day_l6 3000 (0, 0, x, y, z3, z4, z5, z6, z7)
theorem wo_L_day : wordsOk yL_day 7 := by decide +kernel
set_option maxHeartbeats 4000000 in
set_option maxRecDepth 100000 in
theorem c_L_day (l : Launch) (g : GG) (A : Nat → Nat) (b : Nat) (A2 : Nat → Nat) (b2 : Nat) (A3 : Nat → Nat) (b3 : Nat) (A4 : Nat → Nat) (b4 : Nat) (A5 : Nat → Nat) (b5 : Nat) (A6 : Nat → Nat) (b6 : Nat) (A7 : Nat → Nat) (b7 : Nat) (x : TV48s) (y : TV48s) (z3 : TV48s) (z4 : TV48s) (z5 : TV32s) (z6 : TV32s) (z7 : TV10s) (r : Int32) (x' : TV48s) (y' : TV48s) (z3' : TV48s) (z4' : TV48s) (z5' : TV32s) (z6' : TV32s) (z7' : TV10s) (h : f_L_day x y z3 z4 z5 z6 z7 = some (r, x', y', z3', z4', z5', z6', z7')) : CI l yL_day wsL_day 1 23 g [.ref (A b), .ref (A2 b2), .ref (A3 b3), .ref (A4 b4), .ref (A5 b5), .ref (A6 b6), .ref (A7 b7)] (wV48 g A b x ++ wV48 g A2 b2 y ++ wV48 g A3 b3 z3 ++ wV48 g A4 b4 z4 ++ wV32 g A5 b5 z5 ++ wV32 g A6 b6 z6 ++ wV10 g A7 b7 z7) r (wV48 g A b x' ++ wV48 g A2 b2 y' ++ wV48 g A3 b3 z3' ++ wV48 g A4 b4 z4' ++ wV32 g A5 b5 z5' ++ wV32 g A6 b6 z6' ++ wV10 g A7 b7 z7') := by
  refine CI.mk (own := RL) (by decide) rfl rfl (Nat.le_of_ble_eq_true rfl) ?_
  intro p e R s m args below meth c Z Q C E hR H hW ls hl
  have hx := C.1.1
  have hb := C.1.2.1
  have hown := C.1.2.2.2.1
  replace hW : WdG g Z s.heap H [] [[(A b, .inl (gI g, 48, .inl x))], [(A2 b2, .inl (gI g, 48, .inl y))], [(A3 b3, .inl (gI g, 48, .inl z3))], [(A4 b4, .inl (gI g, 48, .inl z4))], [(A5 b5, .inl (gI g, 32, .inl z5))], [(A6 b6, .inl (gI g, 32, .inl z6))], [(A7 b7, .inl (gI g, 10, .inl z7))]] := hW.re rfl
  replace hl : lv_has ls 10 [(0, .ref (A b)), (1, .ref (A2 b2)), (2, .ref (A3 b3)), (3, .ref (A4 b4)), (4, .ref (A5 b5)), (5, .ref (A6 b6)), (6, .ref (A7 b7))] := hl
  unfold f_L_day at h
  refine lv_iconst (v := 0) hx hb dL_day_0 (by decide) ?_
  refine lv_istore (lv' := [(7, .int 0), (0, .ref (A b)), (1, .ref (A2 b2)), (2, .ref (A3 b3)), (3, .ref (A4 b4)), (4, .ref (A5 b5)), (5, .ref (A6 b6)), (6, .ref (A7 b7))]) hx hb dL_day_1 hl (by decide) rfl (fun ls hl => ?_)
  refine lv_iconst (v := 0) hx hb dL_day_3 (by decide) ?_
  refine lv_istore (lv' := [(8, .int 0), (7, .int 0), (0, .ref (A b)), (1, .ref (A2 b2)), (2, .ref (A3 b3)), (3, .ref (A4 b4)), (4, .ref (A5 b5)), (5, .ref (A6 b6)), (6, .ref (A7 b7))]) hx hb dL_day_4 hl (by decide) rfl (fun ls hl => ?_)
  have L6 : ∀ n6 : Nat, ∀ (v6 : Int32 × Int32 × TV48s × TV48s × TV48s × TV48s × TV32s × TV32s × TV10s), lpN f_L_day_l6 n6 v6 = some (r, x', y', z3', z4', z5', z6', z7') → ∀ (H : Heap) (locs : List Loc), WdG g Z s.heap H locs [[(A b, .inl (gI g, 48, .inl v6.2.2.1))], [(A2 b2, .inl (gI g, 48, .inl v6.2.2.2.1))], [(A3 b3, .inl (gI g, 48, .inl v6.2.2.2.2.1))], [(A4 b4, .inl (gI g, 48, .inl v6.2.2.2.2.2.1))], [(A5 b5, .inl (gI g, 32, .inl v6.2.2.2.2.2.2.1))], [(A6 b6, .inl (gI g, 32, .inl v6.2.2.2.2.2.2.2.1))], [(A7 b7, .inl (gI g, 10, .inl v6.2.2.2.2.2.2.2.2))]] → ∀ ls : Array Slot, lv_has ls 10 [(0, .ref (A b)), (1, .ref (A2 b2)), (2, .ref (A3 b3)), (3, .ref (A4 b4)), (4, .ref (A5 b5)), (5, .ref (A6 b6)), (6, .ref (A7 b7)), (7, .int v6.1), (8, .int v6.2.1)] → W p l e R s m args below meth c H locs 0 0 Q (F0 m 6 ls []) := by
    intro n6
    induction n6 with
    | zero => intro v6 h; exact absurd (show none = some (r, x', y', z3', z4', z5', z6', z7') from h) (fun h => by cases h)
    | succ n6 ih6 =>
      intro v6 h H locs hW ls hl
      replace h : f_L_day_l6 (lpN f_L_day_l6 n6) v6 = some (r, x', y', z3', z4', z5', z6', z7') := h
      unfold f_L_day_l6 at h
      refine lv_iload hx hb dL_day_6 (lv_at hl 8 rfl) ?_
      refine lv_bipush (v := 48) hx hb dL_day_8 (by decide) ?_
      refine lv_icmp_ge (tgt := 199) hx hb dL_day_10 (by decide) (fun e1 => ?_) (fun e1 => ?_)
      · replace h := q_t e1 h
        refine lv_iconst (v := 0) hx hb dL_day_199 (by decide) ?_
        refine lv_istore (lv' := [(8, .int 0), (0, .ref (A b)), (1, .ref (A2 b2)), (2, .ref (A3 b3)), (3, .ref (A4 b4)), (4, .ref (A5 b5)), (5, .ref (A6 b6)), (6, .ref (A7 b7)), (7, .int v6.1)]) hx hb dL_day_200 hl (by decide) rfl (fun ls hl => ?_)
        have L202 : ∀ n202 : Nat, ∀ (v202 : Int32 × Int32 × TV48s × TV48s × TV48s × TV48s × TV32s × TV32s × TV10s), lpN f_L_day_l202 n202 v202 = some (r, x', y', z3', z4', z5', z6', z7') → ∀ (H : Heap) (locs : List Loc), WdG g Z s.heap H locs [[(A b, .inl (gI g, 48, .inl v202.2.2.1))], [(A2 b2, .inl (gI g, 48, .inl v202.2.2.2.1))], [(A3 b3, .inl (gI g, 48, .inl v202.2.2.2.2.1))], [(A4 b4, .inl (gI g, 48, .inl v202.2.2.2.2.2.1))], [(A5 b5, .inl (gI g, 32, .inl v202.2.2.2.2.2.2.1))], [(A6 b6, .inl (gI g, 32, .inl v202.2.2.2.2.2.2.2.1))], [(A7 b7, .inl (gI g, 10, .inl v202.2.2.2.2.2.2.2.2))]] → ∀ ls : Array Slot, lv_has ls 10 [(4, .ref (A5 b5)), (5, .ref (A6 b6)), (6, .ref (A7 b7)), (7, .int v202.1), (8, .int v202.2.1)] → W p l e R s m args below meth c H locs 0 0 Q (F0 m 202 ls []) := by
          intro n202
          induction n202 with
          | zero => intro v202 h; exact absurd (show none = some (r, x', y', z3', z4', z5', z6', z7') from h) (fun h => by cases h)
          | succ n202 ih202 =>
            intro v202 h H locs hW ls hl
            replace h : f_L_day_l202 (lpN f_L_day_l202 n202) v202 = some (r, x', y', z3', z4', z5', z6', z7') := h
            unfold f_L_day_l202 at h
            refine lv_iload hx hb dL_day_202 (lv_at hl 4 rfl) ?_
            refine lv_bipush (v := 32) hx hb dL_day_204 (by decide) ?_
            refine lv_icmp_ge (tgt := 315) hx hb dL_day_206 (by decide) (fun e2 => ?_) (fun e2 => ?_)
            · replace h := q_t e2 h
              refine lv_aload hx hb dL_day_315 (lv_at hl 2 rfl) ?_
              refine lv_bipush (v := 6) hx hb dL_day_317 (by decide) ?_
              refine lv_dup2_11 hx hb dL_day_319 rfl rfl ?_
              obtain ⟨g3, h⟩ := q_g h
              refine r_iald C hW 6 0 rfl rfl g3 dL_day_320 ?_
              refine lv_iconst (v := 1) hx hb dL_day_321 (by decide) ?_
              refine lv_iadd hx hb dL_day_322 ?_
              obtain ⟨g4, h⟩ := q_g h
              refine r_iast C hW (bs' := [[(A b, .inl (gI g, 48, .inl v202.2.2.1))], [(A2 b2, .inl (gI g, 48, .inl v202.2.2.2.1))], [(A3 b3, .inl (gI g, 48, .inl v202.2.2.2.2.1))], [(A4 b4, .inl (gI g, 48, .inl v202.2.2.2.2.2.1))], [(A5 b5, .inl (gI g, 32, .inl v202.2.2.2.2.2.2.1))], [(A6 b6, .inl (gI g, 32, .inl v202.2.2.2.2.2.2.2.1))], [(A7 b7, .inl (gI g, 10, .inl (upd v202.2.2.2.2.2.2.2.2 (6 : Int32).toNatClampNeg ((v202.2.2.2.2.2.2.2.2 (6 : Int32).toNatClampNeg) + 1))))]]) 6 0 rfl rfl g4 dL_day_323 rfl (fun H locs hW => ?_)
              refine lv_aload hx hb dL_day_324 (lv_at hl 2 rfl) ?_
              refine lv_bipush (v := 9) hx hb dL_day_326 (by decide) ?_
              refine lv_dup2_11 hx hb dL_day_328 rfl rfl ?_
              obtain ⟨g5, h⟩ := q_g h
              refine r_iald C hW 6 0 rfl rfl g5 dL_day_329 ?_
              refine lv_iload hx hb dL_day_330 (lv_at hl 3 rfl) ?_
              refine lv_iadd hx hb dL_day_332 ?_
              obtain ⟨g6, h⟩ := q_g h
              refine r_iast C hW (bs' := [[(A b, .inl (gI g, 48, .inl v202.2.2.1))], [(A2 b2, .inl (gI g, 48, .inl v202.2.2.2.1))], [(A3 b3, .inl (gI g, 48, .inl v202.2.2.2.2.1))], [(A4 b4, .inl (gI g, 48, .inl v202.2.2.2.2.2.1))], [(A5 b5, .inl (gI g, 32, .inl v202.2.2.2.2.2.2.1))], [(A6 b6, .inl (gI g, 32, .inl v202.2.2.2.2.2.2.2.1))], [(A7 b7, .inl (gI g, 10, .inl (upd (upd v202.2.2.2.2.2.2.2.2 (6 : Int32).toNatClampNeg ((v202.2.2.2.2.2.2.2.2 (6 : Int32).toNatClampNeg) + 1)) (9 : Int32).toNatClampNeg (((upd v202.2.2.2.2.2.2.2.2 (6 : Int32).toNatClampNeg ((v202.2.2.2.2.2.2.2.2 (6 : Int32).toNatClampNeg) + 1)) (9 : Int32).toNatClampNeg) + v202.1))))]]) 6 0 rfl rfl g6 dL_day_333 rfl (fun H locs hW => ?_)
              refine lv_iload hx hb dL_day_334 (lv_at hl 3 rfl) ?_
              cases h
              exact E _ _ _ _ _ hW rfl rfl dL_day_336
            · replace h := q_f e2 h
              refine lv_aload hx hb dL_day_209 (lv_at hl 2 rfl) ?_
              refine lv_iconst (v := 2) hx hb dL_day_211 (by decide) ?_
              refine lv_iload hx hb dL_day_212 (lv_at hl 4 rfl) ?_
              refine lv_bipush (v := 16) hx hb dL_day_214 (by decide) ?_
              have g7 : ¬ (16 : Int32) = 0 := by decide
              refine lv_idiv hx hb dL_day_216 g7 ?_
              refine lv_iadd hx hb dL_day_217 ?_
              obtain ⟨g8, h⟩ := q_g h
              refine r_iald C hW 6 0 rfl rfl g8 dL_day_218 ?_
              refine lv_aload hx hb dL_day_219 (lv_at hl 2 rfl) ?_
              refine lv_iconst (v := 3) hx hb dL_day_221 (by decide) ?_
              refine lv_iload hx hb dL_day_222 (lv_at hl 4 rfl) ?_
              refine lv_bipush (v := 16) hx hb dL_day_224 (by decide) ?_
              have g9 : ¬ (16 : Int32) = 0 := by decide
              refine lv_idiv hx hb dL_day_226 g9 ?_
              refine lv_iadd hx hb dL_day_227 ?_
              obtain ⟨g10, h⟩ := q_g h
              refine r_iald C hW 6 0 rfl rfl g10 dL_day_228 ?_
              refine lv_iadd hx hb dL_day_229 ?_
              refine lv_iconst (v := 2) hx hb dL_day_230 (by decide) ?_
              have g11 : ¬ (2 : Int32) = 0 := by decide
              refine lv_idiv hx hb dL_day_231 g11 ?_
              refine lv_istore (lv' := [(9, .int (((v202.2.2.2.2.2.2.2.2 (2 + (v202.2.1 / 16)).toNatClampNeg) + (v202.2.2.2.2.2.2.2.2 (3 + (v202.2.1 / 16)).toNatClampNeg)) / 2)), (4, .ref (A5 b5)), (5, .ref (A6 b6)), (6, .ref (A7 b7)), (7, .int v202.1), (8, .int v202.2.1)]) hx hb dL_day_232 hl (by decide) rfl (fun ls hl => ?_)
              refine lv_aload hx hb dL_day_234 (lv_at hl 2 rfl) ?_
              refine lv_iload hx hb dL_day_236 (lv_at hl 5 rfl) ?_
              refine lv_aload hx hb dL_day_238 (lv_at hl 2 rfl) ?_
              refine lv_iload hx hb dL_day_240 (lv_at hl 5 rfl) ?_
              obtain ⟨g12, h⟩ := q_g h
              refine r_iald C hW 5 0 rfl rfl g12 dL_day_242 ?_
              refine lv_iload hx hb dL_day_243 (lv_at hl 0 rfl) ?_
              have J260 : ∀ (w260 : Int32), f_L_day_j260 (lpN f_L_day_l202 n202) v202 w260 = some (r, x', y', z3', z4', z5', z6', z7') → ∀ (H : Heap) (locs : List Loc), WdG g Z s.heap H locs [[(A b, .inl (gI g, 48, .inl v202.2.2.1))], [(A2 b2, .inl (gI g, 48, .inl v202.2.2.2.1))], [(A3 b3, .inl (gI g, 48, .inl v202.2.2.2.2.1))], [(A4 b4, .inl (gI g, 48, .inl v202.2.2.2.2.2.1))], [(A5 b5, .inl (gI g, 32, .inl v202.2.2.2.2.2.2.1))], [(A6 b6, .inl (gI g, 32, .inl v202.2.2.2.2.2.2.2.1))], [(A7 b7, .inl (gI g, 10, .inl v202.2.2.2.2.2.2.2.2))]] → ∀ ls : Array Slot, lv_has ls 10 [(4, .ref (A5 b5)), (5, .ref (A6 b6)), (6, .ref (A7 b7)), (7, .int v202.1), (8, .int v202.2.1)] → W p l e R s m args below meth c H locs 0 0 Q (F0 m 260 ls [.int w260, .int v202.2.1, .ref (A6 b6)]) := by
                intro w260 h H locs hW ls hl
                unfold f_L_day_j260 at h
                obtain ⟨g13, h⟩ := q_g h
                refine r_iast C hW (bs' := [[(A b, .inl (gI g, 48, .inl v202.2.2.1))], [(A2 b2, .inl (gI g, 48, .inl v202.2.2.2.1))], [(A3 b3, .inl (gI g, 48, .inl v202.2.2.2.2.1))], [(A4 b4, .inl (gI g, 48, .inl v202.2.2.2.2.2.1))], [(A5 b5, .inl (gI g, 32, .inl v202.2.2.2.2.2.2.1))], [(A6 b6, .inl (gI g, 32, .inl (upd v202.2.2.2.2.2.2.2.1 (v202.2.1).toNatClampNeg w260)))], [(A7 b7, .inl (gI g, 10, .inl v202.2.2.2.2.2.2.2.2))]]) 5 0 rfl rfl g13 dL_day_260 rfl (fun H locs hW => ?_)
                refine lv_iload hx hb dL_day_261 (lv_at hl 3 rfl) ?_
                refine lv_aload hx hb dL_day_263 (lv_at hl 0 rfl) ?_
                refine lv_iload hx hb dL_day_265 (lv_at hl 4 rfl) ?_
                obtain ⟨g14, h⟩ := q_g h
                refine r_iald C hW 4 0 rfl rfl g14 dL_day_267 ?_
                have J284 : ∀ (w284 : Int32), f_L_day_j284 (lpN f_L_day_l202 n202) v202 w260 w284 = some (r, x', y', z3', z4', z5', z6', z7') → ∀ (H : Heap) (locs : List Loc), WdG g Z s.heap H locs [[(A b, .inl (gI g, 48, .inl v202.2.2.1))], [(A2 b2, .inl (gI g, 48, .inl v202.2.2.2.1))], [(A3 b3, .inl (gI g, 48, .inl v202.2.2.2.2.1))], [(A4 b4, .inl (gI g, 48, .inl v202.2.2.2.2.2.1))], [(A5 b5, .inl (gI g, 32, .inl v202.2.2.2.2.2.2.1))], [(A6 b6, .inl (gI g, 32, .inl (upd v202.2.2.2.2.2.2.2.1 (v202.2.1).toNatClampNeg w260)))], [(A7 b7, .inl (gI g, 10, .inl v202.2.2.2.2.2.2.2.2))]] → ∀ ls : Array Slot, lv_has ls 10 [(4, .ref (A5 b5)), (5, .ref (A6 b6)), (6, .ref (A7 b7)), (8, .int v202.2.1)] → W p l e R s m args below meth c H locs 0 0 Q (F0 m 284 ls [.int w284, .int v202.1]) := by
                  intro w284 h H locs hW ls hl
                  unfold f_L_day_j284 at h
                  refine lv_iadd hx hb dL_day_284 ?_
                  refine lv_istore (lv' := [(7, .int (v202.1 + w284)), (4, .ref (A5 b5)), (5, .ref (A6 b6)), (6, .ref (A7 b7)), (8, .int v202.2.1)]) hx hb dL_day_285 hl (by decide) rfl (fun ls hl => ?_)
                  refine lv_aload hx hb dL_day_287 (lv_at hl 1 rfl) ?_
                  refine lv_iload hx hb dL_day_289 (lv_at hl 4 rfl) ?_
                  refine lv_aload hx hb dL_day_291 (lv_at hl 2 rfl) ?_
                  refine lv_iload hx hb dL_day_293 (lv_at hl 4 rfl) ?_
                  obtain ⟨g15, h⟩ := q_g h
                  refine r_iald C hW 5 0 rfl rfl g15 dL_day_295 ?_
                  refine lv_if_ne (tgt := 303) hx hb dL_day_296 (by decide) (fun e16 => ?_) (fun e16 => ?_)
                  · replace h := q_f e16 h
                    refine lv_aload hx hb dL_day_303 (lv_at hl 1 rfl) ?_
                    refine lv_iload hx hb dL_day_305 (lv_at hl 4 rfl) ?_
                    obtain ⟨g17, h⟩ := q_g h
                    refine r_iald C hW 4 0 rfl rfl g17 dL_day_307 ?_
                    obtain ⟨g18, h⟩ := q_g h
                    refine r_iast C hW (bs' := [[(A b, .inl (gI g, 48, .inl v202.2.2.1))], [(A2 b2, .inl (gI g, 48, .inl v202.2.2.2.1))], [(A3 b3, .inl (gI g, 48, .inl v202.2.2.2.2.1))], [(A4 b4, .inl (gI g, 48, .inl v202.2.2.2.2.2.1))], [(A5 b5, .inl (gI g, 32, .inl (upd v202.2.2.2.2.2.2.1 (v202.2.1).toNatClampNeg (v202.2.2.2.2.2.2.1 (v202.2.1).toNatClampNeg))))], [(A6 b6, .inl (gI g, 32, .inl (upd v202.2.2.2.2.2.2.2.1 (v202.2.1).toNatClampNeg w260)))], [(A7 b7, .inl (gI g, 10, .inl v202.2.2.2.2.2.2.2.2))]]) 4 0 rfl rfl g18 dL_day_308 rfl (fun H locs hW => ?_)
                    refine lv_iinc (v := (v202.2.1 + 1)) (lv' := [(8, .int (v202.2.1 + 1)), (7, .int (v202.1 + w284)), (4, .ref (A5 b5)), (5, .ref (A6 b6)), (6, .ref (A7 b7))]) hx hb dL_day_309 hl (k := 4) rfl rfl (by decide) rfl (fun ls hl => ?_)
                    refine lv_goto (tgt := 202) hx hb dL_day_312 (by decide) ?_
                    exact ih202 ((v202.1 + w284), (v202.2.1 + 1), v202.2.2.1, v202.2.2.2.1, v202.2.2.2.2.1, v202.2.2.2.2.2.1, (upd v202.2.2.2.2.2.2.1 (v202.2.1).toNatClampNeg (v202.2.2.2.2.2.2.1 (v202.2.1).toNatClampNeg)), (upd v202.2.2.2.2.2.2.2.1 (v202.2.1).toNatClampNeg w260), v202.2.2.2.2.2.2.2.2) h _ _ hW _ (lv_sub hl [2, 3, 4, 1, 0] rfl)
                  · replace h := q_t e16 h
                    refine lv_iconst (v := 0) hx hb dL_day_299 (by decide) ?_
                    refine lv_goto (tgt := 308) hx hb dL_day_300 (by decide) ?_
                    obtain ⟨g19, h⟩ := q_g h
                    refine r_iast C hW (bs' := [[(A b, .inl (gI g, 48, .inl v202.2.2.1))], [(A2 b2, .inl (gI g, 48, .inl v202.2.2.2.1))], [(A3 b3, .inl (gI g, 48, .inl v202.2.2.2.2.1))], [(A4 b4, .inl (gI g, 48, .inl v202.2.2.2.2.2.1))], [(A5 b5, .inl (gI g, 32, .inl (upd v202.2.2.2.2.2.2.1 (v202.2.1).toNatClampNeg 0)))], [(A6 b6, .inl (gI g, 32, .inl (upd v202.2.2.2.2.2.2.2.1 (v202.2.1).toNatClampNeg w260)))], [(A7 b7, .inl (gI g, 10, .inl v202.2.2.2.2.2.2.2.2))]]) 4 0 rfl rfl g19 dL_day_308 rfl (fun H locs hW => ?_)
                    refine lv_iinc (v := (v202.2.1 + 1)) (lv' := [(8, .int (v202.2.1 + 1)), (7, .int (v202.1 + w284)), (4, .ref (A5 b5)), (5, .ref (A6 b6)), (6, .ref (A7 b7))]) hx hb dL_day_309 hl (k := 4) rfl rfl (by decide) rfl (fun ls hl => ?_)
                    refine lv_goto (tgt := 202) hx hb dL_day_312 (by decide) ?_
                    exact ih202 ((v202.1 + w284), (v202.2.1 + 1), v202.2.2.1, v202.2.2.2.1, v202.2.2.2.2.1, v202.2.2.2.2.2.1, (upd v202.2.2.2.2.2.2.1 (v202.2.1).toNatClampNeg 0), (upd v202.2.2.2.2.2.2.2.1 (v202.2.1).toNatClampNeg w260), v202.2.2.2.2.2.2.2.2) h _ _ hW _ (lv_sub hl [2, 3, 4, 1, 0] rfl)
                have J283 : ∀ (w283 : Unit), f_L_day_j283 (lpN f_L_day_l202 n202) v202 w260 w283 = some (r, x', y', z3', z4', z5', z6', z7') → ∀ (H : Heap) (locs : List Loc), WdG g Z s.heap H locs [[(A b, .inl (gI g, 48, .inl v202.2.2.1))], [(A2 b2, .inl (gI g, 48, .inl v202.2.2.2.1))], [(A3 b3, .inl (gI g, 48, .inl v202.2.2.2.2.1))], [(A4 b4, .inl (gI g, 48, .inl v202.2.2.2.2.2.1))], [(A5 b5, .inl (gI g, 32, .inl v202.2.2.2.2.2.2.1))], [(A6 b6, .inl (gI g, 32, .inl (upd v202.2.2.2.2.2.2.2.1 (v202.2.1).toNatClampNeg w260)))], [(A7 b7, .inl (gI g, 10, .inl v202.2.2.2.2.2.2.2.2))]] → ∀ ls : Array Slot, lv_has ls 10 [(4, .ref (A5 b5)), (5, .ref (A6 b6)), (6, .ref (A7 b7)), (8, .int v202.2.1)] → W p l e R s m args below meth c H locs 0 0 Q (F0 m 283 ls [.int v202.1]) := by
                  intro w283 h H locs hW ls hl
                  unfold f_L_day_j283 at h
                  refine lv_iconst (v := 0) hx hb dL_day_283 (by decide) ?_
                  exact J284 0 h _ _ hW _ (lv_sub hl [0, 1, 2, 3] rfl)
                refine lv_if_le (tgt := 283) hx hb dL_day_268 (by decide) (fun e20 => ?_) (fun e20 => ?_)
                · replace h := q_t e20 h
                  exact J283 () h _ _ hW _ (lv_sub hl [0, 1, 2, 4] rfl)
                · replace h := q_f e20 h
                  refine lv_aload hx hb dL_day_271 (lv_at hl 1 rfl) ?_
                  refine lv_iload hx hb dL_day_273 (lv_at hl 4 rfl) ?_
                  obtain ⟨g21, h⟩ := q_g h
                  refine r_iald C hW 5 0 rfl rfl g21 dL_day_275 ?_
                  refine lv_if_ne (tgt := 283) hx hb dL_day_276 (by decide) (fun e22 => ?_) (fun e22 => ?_)
                  · replace h := q_f e22 h
                    exact J283 () h _ _ hW _ (lv_sub hl [0, 1, 2, 4] rfl)
                  · replace h := q_t e22 h
                    refine lv_iconst (v := 1) hx hb dL_day_279 (by decide) ?_
                    refine lv_goto (tgt := 284) hx hb dL_day_280 (by decide) ?_
                    exact J284 1 h _ _ hW _ (lv_sub hl [0, 1, 2, 4] rfl)
              refine lv_icmp_ge (tgt := 252) hx hb dL_day_245 (by decide) (fun e23 => ?_) (fun e23 => ?_)
              · replace h := q_t e23 h
                refine lv_aload hx hb dL_day_252 (lv_at hl 2 rfl) ?_
                refine lv_iload hx hb dL_day_254 (lv_at hl 5 rfl) ?_
                obtain ⟨g24, h⟩ := q_g h
                refine r_iald C hW 5 0 rfl rfl g24 dL_day_256 ?_
                refine lv_iload hx hb dL_day_257 (lv_at hl 0 rfl) ?_
                refine lv_isub hx hb dL_day_259 ?_
                exact J260 ((v202.2.2.2.2.2.2.2.1 (v202.2.1).toNatClampNeg) - (((v202.2.2.2.2.2.2.2.2 (2 + (v202.2.1 / 16)).toNatClampNeg) + (v202.2.2.2.2.2.2.2.2 (3 + (v202.2.1 / 16)).toNatClampNeg)) / 2)) h _ _ hW _ (lv_sub hl [1, 2, 3, 4, 5] rfl)
              · replace h := q_f e23 h
                refine lv_iconst (v := 0) hx hb dL_day_248 (by decide) ?_
                refine lv_goto (tgt := 260) hx hb dL_day_249 (by decide) ?_
                exact J260 0 h _ _ hW _ (lv_sub hl [1, 2, 3, 4, 5] rfl)
        exact L202 3000 (v6.1, 0, v6.2.2.1, v6.2.2.2.1, v6.2.2.2.2.1, v6.2.2.2.2.2.1, v6.2.2.2.2.2.2.1, v6.2.2.2.2.2.2.2.1, v6.2.2.2.2.2.2.2.2) h _ _ hW _ (lv_sub hl [5, 6, 7, 8, 0] rfl)
      · replace h := q_f e1 h
        refine lv_aload hx hb dL_day_13 (lv_at hl 6 rfl) ?_
        refine lv_iconst (v := 2) hx hb dL_day_15 (by decide) ?_
        refine lv_iload hx hb dL_day_16 (lv_at hl 8 rfl) ?_
        refine lv_bipush (v := 16) hx hb dL_day_18 (by decide) ?_
        have g25 : ¬ (16 : Int32) = 0 := by decide
        refine lv_idiv hx hb dL_day_20 g25 ?_
        refine lv_iadd hx hb dL_day_21 ?_
        obtain ⟨g26, h⟩ := q_g h
        refine r_iald C hW 6 0 rfl rfl g26 dL_day_22 ?_
        refine lv_istore (lv' := [(9, .int (v6.2.2.2.2.2.2.2.2 (2 + (v6.2.1 / 16)).toNatClampNeg)), (0, .ref (A b)), (1, .ref (A2 b2)), (2, .ref (A3 b3)), (3, .ref (A4 b4)), (4, .ref (A5 b5)), (5, .ref (A6 b6)), (6, .ref (A7 b7)), (7, .int v6.1), (8, .int v6.2.1)]) hx hb dL_day_23 hl (by decide) rfl (fun ls hl => ?_)
        refine lv_aload_n hx hb dL_day_25 rfl (lv_at hl 3 rfl) ?_
        refine lv_iload hx hb dL_day_26 (lv_at hl 9 rfl) ?_
        obtain ⟨g27, h⟩ := q_g h
        refine r_iald C hW 2 0 rfl rfl g27 dL_day_28 ?_
        have J61 : ∀ (w61 : Int32), f_L_day_j61 (lpN f_L_day_l6 n6) v6 w61 = some (r, x', y', z3', z4', z5', z6', z7') → ∀ (H : Heap) (locs : List Loc), WdG g Z s.heap H locs [[(A b, .inl (gI g, 48, .inl v6.2.2.1))], [(A2 b2, .inl (gI g, 48, .inl v6.2.2.2.1))], [(A3 b3, .inl (gI g, 48, .inl v6.2.2.2.2.1))], [(A4 b4, .inl (gI g, 48, .inl v6.2.2.2.2.2.1))], [(A5 b5, .inl (gI g, 32, .inl v6.2.2.2.2.2.2.1))], [(A6 b6, .inl (gI g, 32, .inl v6.2.2.2.2.2.2.2.1))], [(A7 b7, .inl (gI g, 10, .inl v6.2.2.2.2.2.2.2.2))]] → ∀ ls : Array Slot, lv_has ls 10 [(0, .ref (A b)), (1, .ref (A2 b2)), (2, .ref (A3 b3)), (3, .ref (A4 b4)), (4, .ref (A5 b5)), (5, .ref (A6 b6)), (6, .ref (A7 b7)), (7, .int v6.1), (8, .int v6.2.1)] → W p l e R s m args below meth c H locs 0 0 Q (F0 m 61 ls [.int w61]) := by
          intro w61 h H locs hW ls hl
          unfold f_L_day_j61 at h
          refine lv_istore (lv' := [(9, .int w61), (0, .ref (A b)), (1, .ref (A2 b2)), (2, .ref (A3 b3)), (3, .ref (A4 b4)), (4, .ref (A5 b5)), (5, .ref (A6 b6)), (6, .ref (A7 b7)), (7, .int v6.1), (8, .int v6.2.1)]) hx hb dL_day_61 hl (by decide) rfl (fun ls hl => ?_)
          refine lv_aload_n hx hb dL_day_63 rfl (lv_at hl 2 rfl) ?_
          refine lv_iload hx hb dL_day_64 (lv_at hl 9 rfl) ?_
          refine lv_aload_n hx hb dL_day_66 rfl (lv_at hl 2 rfl) ?_
          refine lv_iload hx hb dL_day_67 (lv_at hl 9 rfl) ?_
          obtain ⟨g28, h⟩ := q_g h
          refine r_iald C hW 1 0 rfl rfl g28 dL_day_69 ?_
          refine lv_iload hx hb dL_day_70 (lv_at hl 0 rfl) ?_
          have J86 : ∀ (w86 : Int32), f_L_day_j86 (lpN f_L_day_l6 n6) v6 w61 w86 = some (r, x', y', z3', z4', z5', z6', z7') → ∀ (H : Heap) (locs : List Loc), WdG g Z s.heap H locs [[(A b, .inl (gI g, 48, .inl v6.2.2.1))], [(A2 b2, .inl (gI g, 48, .inl v6.2.2.2.1))], [(A3 b3, .inl (gI g, 48, .inl v6.2.2.2.2.1))], [(A4 b4, .inl (gI g, 48, .inl v6.2.2.2.2.2.1))], [(A5 b5, .inl (gI g, 32, .inl v6.2.2.2.2.2.2.1))], [(A6 b6, .inl (gI g, 32, .inl v6.2.2.2.2.2.2.2.1))], [(A7 b7, .inl (gI g, 10, .inl v6.2.2.2.2.2.2.2.2))]] → ∀ ls : Array Slot, lv_has ls 10 [(0, .ref (A b)), (1, .ref (A2 b2)), (2, .ref (A3 b3)), (3, .ref (A4 b4)), (4, .ref (A5 b5)), (5, .ref (A6 b6)), (6, .ref (A7 b7)), (7, .int v6.1), (8, .int v6.2.1), (9, .int w61)] → W p l e R s m args below meth c H locs 0 0 Q (F0 m 86 ls [.int w86, .int v6.2.1, .ref (A2 b2)]) := by
            intro w86 h H locs hW ls hl
            unfold f_L_day_j86 at h
            obtain ⟨g29, h⟩ := q_g h
            refine r_iast C hW (bs' := [[(A b, .inl (gI g, 48, .inl v6.2.2.1))], [(A2 b2, .inl (gI g, 48, .inl (upd v6.2.2.2.1 (v6.2.1).toNatClampNeg w86)))], [(A3 b3, .inl (gI g, 48, .inl v6.2.2.2.2.1))], [(A4 b4, .inl (gI g, 48, .inl v6.2.2.2.2.2.1))], [(A5 b5, .inl (gI g, 32, .inl v6.2.2.2.2.2.2.1))], [(A6 b6, .inl (gI g, 32, .inl v6.2.2.2.2.2.2.2.1))], [(A7 b7, .inl (gI g, 10, .inl v6.2.2.2.2.2.2.2.2))]]) 1 0 rfl rfl g29 dL_day_86 rfl (fun H locs hW => ?_)
            refine lv_aload_n hx hb dL_day_87 rfl (lv_at hl 3 rfl) ?_
            refine lv_iload hx hb dL_day_88 (lv_at hl 8 rfl) ?_
            refine lv_aload_n hx hb dL_day_90 rfl (lv_at hl 3 rfl) ?_
            refine lv_iload hx hb dL_day_91 (lv_at hl 8 rfl) ?_
            obtain ⟨g30, h⟩ := q_g h
            refine r_iald C hW 3 0 rfl rfl g30 dL_day_93 ?_
            refine lv_iload hx hb dL_day_94 (lv_at hl 9 rfl) ?_
            have J110 : ∀ (w110 : Int32), f_L_day_j110 (lpN f_L_day_l6 n6) v6 w86 w110 = some (r, x', y', z3', z4', z5', z6', z7') → ∀ (H : Heap) (locs : List Loc), WdG g Z s.heap H locs [[(A b, .inl (gI g, 48, .inl v6.2.2.1))], [(A2 b2, .inl (gI g, 48, .inl (upd v6.2.2.2.1 (v6.2.1).toNatClampNeg w86)))], [(A3 b3, .inl (gI g, 48, .inl v6.2.2.2.2.1))], [(A4 b4, .inl (gI g, 48, .inl v6.2.2.2.2.2.1))], [(A5 b5, .inl (gI g, 32, .inl v6.2.2.2.2.2.2.1))], [(A6 b6, .inl (gI g, 32, .inl v6.2.2.2.2.2.2.2.1))], [(A7 b7, .inl (gI g, 10, .inl v6.2.2.2.2.2.2.2.2))]] → ∀ ls : Array Slot, lv_has ls 10 [(0, .ref (A b)), (1, .ref (A2 b2)), (2, .ref (A3 b3)), (3, .ref (A4 b4)), (4, .ref (A5 b5)), (5, .ref (A6 b6)), (6, .ref (A7 b7)), (7, .int v6.1), (8, .int v6.2.1)] → W p l e R s m args below meth c H locs 0 0 Q (F0 m 110 ls [.int w110, .int v6.2.1, .ref (A4 b4)]) := by
              intro w110 h H locs hW ls hl
              unfold f_L_day_j110 at h
              obtain ⟨g31, h⟩ := q_g h
              refine r_iast C hW (bs' := [[(A b, .inl (gI g, 48, .inl v6.2.2.1))], [(A2 b2, .inl (gI g, 48, .inl (upd v6.2.2.2.1 (v6.2.1).toNatClampNeg w86)))], [(A3 b3, .inl (gI g, 48, .inl v6.2.2.2.2.1))], [(A4 b4, .inl (gI g, 48, .inl (upd v6.2.2.2.2.2.1 (v6.2.1).toNatClampNeg w110)))], [(A5 b5, .inl (gI g, 32, .inl v6.2.2.2.2.2.2.1))], [(A6 b6, .inl (gI g, 32, .inl v6.2.2.2.2.2.2.2.1))], [(A7 b7, .inl (gI g, 10, .inl v6.2.2.2.2.2.2.2.2))]]) 3 0 rfl rfl g31 dL_day_110 rfl (fun H locs hW => ?_)
              refine lv_iload hx hb dL_day_111 (lv_at hl 7 rfl) ?_
              refine lv_aload_n hx hb dL_day_113 rfl (lv_at hl 0 rfl) ?_
              refine lv_iload hx hb dL_day_114 (lv_at hl 8 rfl) ?_
              obtain ⟨g32, h⟩ := q_g h
              refine r_iald C hW 0 0 rfl rfl g32 dL_day_116 ?_
              have J132 : ∀ (w132 : Int32), f_L_day_j132 (lpN f_L_day_l6 n6) v6 w86 w110 w132 = some (r, x', y', z3', z4', z5', z6', z7') → ∀ (H : Heap) (locs : List Loc), WdG g Z s.heap H locs [[(A b, .inl (gI g, 48, .inl v6.2.2.1))], [(A2 b2, .inl (gI g, 48, .inl (upd v6.2.2.2.1 (v6.2.1).toNatClampNeg w86)))], [(A3 b3, .inl (gI g, 48, .inl v6.2.2.2.2.1))], [(A4 b4, .inl (gI g, 48, .inl (upd v6.2.2.2.2.2.1 (v6.2.1).toNatClampNeg w110)))], [(A5 b5, .inl (gI g, 32, .inl v6.2.2.2.2.2.2.1))], [(A6 b6, .inl (gI g, 32, .inl v6.2.2.2.2.2.2.2.1))], [(A7 b7, .inl (gI g, 10, .inl v6.2.2.2.2.2.2.2.2))]] → ∀ ls : Array Slot, lv_has ls 10 [(0, .ref (A b)), (1, .ref (A2 b2)), (2, .ref (A3 b3)), (3, .ref (A4 b4)), (4, .ref (A5 b5)), (5, .ref (A6 b6)), (6, .ref (A7 b7)), (8, .int v6.2.1)] → W p l e R s m args below meth c H locs 0 0 Q (F0 m 132 ls [.int w132, .int v6.1]) := by
                intro w132 h H locs hW ls hl
                unfold f_L_day_j132 at h
                refine lv_aload_n hx hb dL_day_132 rfl (lv_at hl 2 rfl) ?_
                refine lv_iload hx hb dL_day_133 (lv_at hl 7 rfl) ?_
                obtain ⟨g33, h⟩ := q_g h
                refine r_iald C hW 2 0 rfl rfl g33 dL_day_135 ?_
                have J151 : ∀ (w151 : Int32), f_L_day_j151 (lpN f_L_day_l6 n6) v6 w86 w110 w132 w151 = some (r, x', y', z3', z4', z5', z6', z7') → ∀ (H : Heap) (locs : List Loc), WdG g Z s.heap H locs [[(A b, .inl (gI g, 48, .inl v6.2.2.1))], [(A2 b2, .inl (gI g, 48, .inl (upd v6.2.2.2.1 (v6.2.1).toNatClampNeg w86)))], [(A3 b3, .inl (gI g, 48, .inl v6.2.2.2.2.1))], [(A4 b4, .inl (gI g, 48, .inl (upd v6.2.2.2.2.2.1 (v6.2.1).toNatClampNeg w110)))], [(A5 b5, .inl (gI g, 32, .inl v6.2.2.2.2.2.2.1))], [(A6 b6, .inl (gI g, 32, .inl v6.2.2.2.2.2.2.2.1))], [(A7 b7, .inl (gI g, 10, .inl v6.2.2.2.2.2.2.2.2))]] → ∀ ls : Array Slot, lv_has ls 10 [(0, .ref (A b)), (1, .ref (A2 b2)), (2, .ref (A3 b3)), (3, .ref (A4 b4)), (4, .ref (A5 b5)), (5, .ref (A6 b6)), (6, .ref (A7 b7)), (8, .int v6.2.1)] → W p l e R s m args below meth c H locs 0 0 Q (F0 m 151 ls [.int w151, .int w132, .int v6.1]) := by
                  intro w151 h H locs hW ls hl
                  unfold f_L_day_j151 at h
                  refine lv_iadd hx hb dL_day_151 ?_
                  refine lv_iadd hx hb dL_day_152 ?_
                  refine lv_istore (lv' := [(7, .int (v6.1 + (w132 + w151))), (0, .ref (A b)), (1, .ref (A2 b2)), (2, .ref (A3 b3)), (3, .ref (A4 b4)), (4, .ref (A5 b5)), (5, .ref (A6 b6)), (6, .ref (A7 b7)), (8, .int v6.2.1)]) hx hb dL_day_153 hl (by decide) rfl (fun ls hl => ?_)
                  refine lv_aload_n hx hb dL_day_155 rfl (lv_at hl 1 rfl) ?_
                  refine lv_iload hx hb dL_day_156 (lv_at hl 8 rfl) ?_
                  refine lv_aload_n hx hb dL_day_158 rfl (lv_at hl 2 rfl) ?_
                  refine lv_iload hx hb dL_day_159 (lv_at hl 8 rfl) ?_
                  obtain ⟨g34, h⟩ := q_g h
                  refine r_iald C hW 1 0 rfl rfl g34 dL_day_161 ?_
                  have J173 : ∀ (w173 : Int32), f_L_day_j173 (lpN f_L_day_l6 n6) v6 w86 w110 w132 w151 w173 = some (r, x', y', z3', z4', z5', z6', z7') → ∀ (H : Heap) (locs : List Loc), WdG g Z s.heap H locs [[(A b, .inl (gI g, 48, .inl v6.2.2.1))], [(A2 b2, .inl (gI g, 48, .inl (upd v6.2.2.2.1 (v6.2.1).toNatClampNeg w86)))], [(A3 b3, .inl (gI g, 48, .inl v6.2.2.2.2.1))], [(A4 b4, .inl (gI g, 48, .inl (upd v6.2.2.2.2.2.1 (v6.2.1).toNatClampNeg w110)))], [(A5 b5, .inl (gI g, 32, .inl v6.2.2.2.2.2.2.1))], [(A6 b6, .inl (gI g, 32, .inl v6.2.2.2.2.2.2.2.1))], [(A7 b7, .inl (gI g, 10, .inl v6.2.2.2.2.2.2.2.2))]] → ∀ ls : Array Slot, lv_has ls 10 [(0, .ref (A b)), (1, .ref (A2 b2)), (2, .ref (A3 b3)), (3, .ref (A4 b4)), (4, .ref (A5 b5)), (5, .ref (A6 b6)), (6, .ref (A7 b7)), (7, .int (v6.1 + (w132 + w151))), (8, .int v6.2.1)] → W p l e R s m args below meth c H locs 0 0 Q (F0 m 173 ls [.int w173, .int v6.2.1, .ref (A b)]) := by
                    intro w173 h H locs hW ls hl
                    unfold f_L_day_j173 at h
                    obtain ⟨g35, h⟩ := q_g h
                    refine r_iast C hW (bs' := [[(A b, .inl (gI g, 48, .inl (upd v6.2.2.1 (v6.2.1).toNatClampNeg w173)))], [(A2 b2, .inl (gI g, 48, .inl (upd v6.2.2.2.1 (v6.2.1).toNatClampNeg w86)))], [(A3 b3, .inl (gI g, 48, .inl v6.2.2.2.2.1))], [(A4 b4, .inl (gI g, 48, .inl (upd v6.2.2.2.2.2.1 (v6.2.1).toNatClampNeg w110)))], [(A5 b5, .inl (gI g, 32, .inl v6.2.2.2.2.2.2.1))], [(A6 b6, .inl (gI g, 32, .inl v6.2.2.2.2.2.2.2.1))], [(A7 b7, .inl (gI g, 10, .inl v6.2.2.2.2.2.2.2.2))]]) 0 0 rfl rfl g35 dL_day_173 rfl (fun H locs hW => ?_)
                    refine lv_aload_n hx hb dL_day_174 rfl (lv_at hl 2 rfl) ?_
                    refine lv_iload hx hb dL_day_175 (lv_at hl 8 rfl) ?_
                    refine lv_aload_n hx hb dL_day_177 rfl (lv_at hl 3 rfl) ?_
                    refine lv_iload hx hb dL_day_178 (lv_at hl 8 rfl) ?_
                    obtain ⟨g36, h⟩ := q_g h
                    refine r_iald C hW 3 0 rfl rfl g36 dL_day_180 ?_
                    refine lv_if_ne (tgt := 188) hx hb dL_day_181 (by decide) (fun e37 => ?_) (fun e37 => ?_)
                    · replace h := q_f e37 h
                      refine lv_aload_n hx hb dL_day_188 rfl (lv_at hl 2 rfl) ?_
                      refine lv_iload hx hb dL_day_189 (lv_at hl 8 rfl) ?_
                      obtain ⟨g38, h⟩ := q_g h
                      refine r_iald C hW 2 0 rfl rfl g38 dL_day_191 ?_
                      obtain ⟨g39, h⟩ := q_g h
                      refine r_iast C hW (bs' := [[(A b, .inl (gI g, 48, .inl (upd v6.2.2.1 (v6.2.1).toNatClampNeg w173)))], [(A2 b2, .inl (gI g, 48, .inl (upd v6.2.2.2.1 (v6.2.1).toNatClampNeg w86)))], [(A3 b3, .inl (gI g, 48, .inl (upd v6.2.2.2.2.1 (v6.2.1).toNatClampNeg (v6.2.2.2.2.1 (v6.2.1).toNatClampNeg))))], [(A4 b4, .inl (gI g, 48, .inl (upd v6.2.2.2.2.2.1 (v6.2.1).toNatClampNeg w110)))], [(A5 b5, .inl (gI g, 32, .inl v6.2.2.2.2.2.2.1))], [(A6 b6, .inl (gI g, 32, .inl v6.2.2.2.2.2.2.2.1))], [(A7 b7, .inl (gI g, 10, .inl v6.2.2.2.2.2.2.2.2))]]) 2 0 rfl rfl g39 dL_day_192 rfl (fun H locs hW => ?_)
                      refine lv_iinc (v := (v6.2.1 + 1)) (lv' := [(8, .int (v6.2.1 + 1)), (0, .ref (A b)), (1, .ref (A2 b2)), (2, .ref (A3 b3)), (3, .ref (A4 b4)), (4, .ref (A5 b5)), (5, .ref (A6 b6)), (6, .ref (A7 b7)), (7, .int (v6.1 + (w132 + w151)))]) hx hb dL_day_193 hl (k := 8) rfl rfl (by decide) rfl (fun ls hl => ?_)
                      refine lv_goto (tgt := 6) hx hb dL_day_196 (by decide) ?_
                      exact ih6 ((v6.1 + (w132 + w151)), (v6.2.1 + 1), (upd v6.2.2.1 (v6.2.1).toNatClampNeg w173), (upd v6.2.2.2.1 (v6.2.1).toNatClampNeg w86), (upd v6.2.2.2.2.1 (v6.2.1).toNatClampNeg (v6.2.2.2.2.1 (v6.2.1).toNatClampNeg)), (upd v6.2.2.2.2.2.1 (v6.2.1).toNatClampNeg w110), v6.2.2.2.2.2.2.1, v6.2.2.2.2.2.2.2.1, v6.2.2.2.2.2.2.2.2) h _ _ hW _ (lv_sub hl [1, 2, 3, 4, 5, 6, 7, 8, 0] rfl)
                    · replace h := q_t e37 h
                      refine lv_iconst (v := (-1)) hx hb dL_day_184 (by decide) ?_
                      refine lv_goto (tgt := 192) hx hb dL_day_185 (by decide) ?_
                      obtain ⟨g40, h⟩ := q_g h
                      refine r_iast C hW (bs' := [[(A b, .inl (gI g, 48, .inl (upd v6.2.2.1 (v6.2.1).toNatClampNeg w173)))], [(A2 b2, .inl (gI g, 48, .inl (upd v6.2.2.2.1 (v6.2.1).toNatClampNeg w86)))], [(A3 b3, .inl (gI g, 48, .inl (upd v6.2.2.2.2.1 (v6.2.1).toNatClampNeg (-1))))], [(A4 b4, .inl (gI g, 48, .inl (upd v6.2.2.2.2.2.1 (v6.2.1).toNatClampNeg w110)))], [(A5 b5, .inl (gI g, 32, .inl v6.2.2.2.2.2.2.1))], [(A6 b6, .inl (gI g, 32, .inl v6.2.2.2.2.2.2.2.1))], [(A7 b7, .inl (gI g, 10, .inl v6.2.2.2.2.2.2.2.2))]]) 2 0 rfl rfl g40 dL_day_192 rfl (fun H locs hW => ?_)
                      refine lv_iinc (v := (v6.2.1 + 1)) (lv' := [(8, .int (v6.2.1 + 1)), (0, .ref (A b)), (1, .ref (A2 b2)), (2, .ref (A3 b3)), (3, .ref (A4 b4)), (4, .ref (A5 b5)), (5, .ref (A6 b6)), (6, .ref (A7 b7)), (7, .int (v6.1 + (w132 + w151)))]) hx hb dL_day_193 hl (k := 8) rfl rfl (by decide) rfl (fun ls hl => ?_)
                      refine lv_goto (tgt := 6) hx hb dL_day_196 (by decide) ?_
                      exact ih6 ((v6.1 + (w132 + w151)), (v6.2.1 + 1), (upd v6.2.2.1 (v6.2.1).toNatClampNeg w173), (upd v6.2.2.2.1 (v6.2.1).toNatClampNeg w86), (upd v6.2.2.2.2.1 (v6.2.1).toNatClampNeg (-1)), (upd v6.2.2.2.2.2.1 (v6.2.1).toNatClampNeg w110), v6.2.2.2.2.2.2.1, v6.2.2.2.2.2.2.2.1, v6.2.2.2.2.2.2.2.2) h _ _ hW _ (lv_sub hl [1, 2, 3, 4, 5, 6, 7, 8, 0] rfl)
                  refine lv_if_ne (tgt := 169) hx hb dL_day_162 (by decide) (fun e41 => ?_) (fun e41 => ?_)
                  · replace h := q_f e41 h
                    refine lv_aload_n hx hb dL_day_169 rfl (lv_at hl 1 rfl) ?_
                    refine lv_iload hx hb dL_day_170 (lv_at hl 8 rfl) ?_
                    obtain ⟨g42, h⟩ := q_g h
                    refine r_iald C hW 0 0 rfl rfl g42 dL_day_172 ?_
                    exact J173 (v6.2.2.1 (v6.2.1).toNatClampNeg) h _ _ hW _ (lv_sub hl [1, 2, 3, 4, 5, 6, 7, 0, 8] rfl)
                  · replace h := q_t e41 h
                    refine lv_iconst (v := (-1)) hx hb dL_day_165 (by decide) ?_
                    refine lv_goto (tgt := 173) hx hb dL_day_166 (by decide) ?_
                    exact J173 (-1) h _ _ hW _ (lv_sub hl [1, 2, 3, 4, 5, 6, 7, 0, 8] rfl)
                have J150 : ∀ (w150 : Unit), f_L_day_j150 (lpN f_L_day_l6 n6) v6 w86 w110 w132 w150 = some (r, x', y', z3', z4', z5', z6', z7') → ∀ (H : Heap) (locs : List Loc), WdG g Z s.heap H locs [[(A b, .inl (gI g, 48, .inl v6.2.2.1))], [(A2 b2, .inl (gI g, 48, .inl (upd v6.2.2.2.1 (v6.2.1).toNatClampNeg w86)))], [(A3 b3, .inl (gI g, 48, .inl v6.2.2.2.2.1))], [(A4 b4, .inl (gI g, 48, .inl (upd v6.2.2.2.2.2.1 (v6.2.1).toNatClampNeg w110)))], [(A5 b5, .inl (gI g, 32, .inl v6.2.2.2.2.2.2.1))], [(A6 b6, .inl (gI g, 32, .inl v6.2.2.2.2.2.2.2.1))], [(A7 b7, .inl (gI g, 10, .inl v6.2.2.2.2.2.2.2.2))]] → ∀ ls : Array Slot, lv_has ls 10 [(0, .ref (A b)), (1, .ref (A2 b2)), (2, .ref (A3 b3)), (3, .ref (A4 b4)), (4, .ref (A5 b5)), (5, .ref (A6 b6)), (6, .ref (A7 b7)), (8, .int v6.2.1)] → W p l e R s m args below meth c H locs 0 0 Q (F0 m 150 ls [.int w132, .int v6.1]) := by
                  intro w150 h H locs hW ls hl
                  unfold f_L_day_j150 at h
                  refine lv_iconst (v := 0) hx hb dL_day_150 (by decide) ?_
                  exact J151 0 h _ _ hW _ (lv_sub hl [0, 1, 2, 3, 4, 5, 6, 7] rfl)
                refine lv_if_lt (tgt := 150) hx hb dL_day_136 (by decide) (fun e43 => ?_) (fun e43 => ?_)
                · replace h := q_t e43 h
                  exact J150 () h _ _ hW _ (lv_sub hl [0, 1, 2, 3, 4, 5, 6, 7] rfl)
                · replace h := q_f e43 h
                  refine lv_aload_n hx hb dL_day_139 rfl (lv_at hl 3 rfl) ?_
                  refine lv_iload hx hb dL_day_140 (lv_at hl 7 rfl) ?_
                  obtain ⟨g44, h⟩ := q_g h
                  refine r_iald C hW 3 0 rfl rfl g44 dL_day_142 ?_
                  refine lv_if_ne (tgt := 150) hx hb dL_day_143 (by decide) (fun e45 => ?_) (fun e45 => ?_)
                  · replace h := q_f e45 h
                    exact J150 () h _ _ hW _ (lv_sub hl [0, 1, 2, 3, 4, 5, 6, 7] rfl)
                  · replace h := q_t e45 h
                    refine lv_iconst (v := 1) hx hb dL_day_146 (by decide) ?_
                    refine lv_goto (tgt := 151) hx hb dL_day_147 (by decide) ?_
                    exact J151 1 h _ _ hW _ (lv_sub hl [0, 1, 2, 3, 4, 5, 6, 7] rfl)
              have J131 : ∀ (w131 : Unit), f_L_day_j131 (lpN f_L_day_l6 n6) v6 w86 w110 w131 = some (r, x', y', z3', z4', z5', z6', z7') → ∀ (H : Heap) (locs : List Loc), WdG g Z s.heap H locs [[(A b, .inl (gI g, 48, .inl v6.2.2.1))], [(A2 b2, .inl (gI g, 48, .inl (upd v6.2.2.2.1 (v6.2.1).toNatClampNeg w86)))], [(A3 b3, .inl (gI g, 48, .inl v6.2.2.2.2.1))], [(A4 b4, .inl (gI g, 48, .inl (upd v6.2.2.2.2.2.1 (v6.2.1).toNatClampNeg w110)))], [(A5 b5, .inl (gI g, 32, .inl v6.2.2.2.2.2.2.1))], [(A6 b6, .inl (gI g, 32, .inl v6.2.2.2.2.2.2.2.1))], [(A7 b7, .inl (gI g, 10, .inl v6.2.2.2.2.2.2.2.2))]] → ∀ ls : Array Slot, lv_has ls 10 [(0, .ref (A b)), (1, .ref (A2 b2)), (2, .ref (A3 b3)), (3, .ref (A4 b4)), (4, .ref (A5 b5)), (5, .ref (A6 b6)), (6, .ref (A7 b7)), (8, .int v6.2.1)] → W p l e R s m args below meth c H locs 0 0 Q (F0 m 131 ls [.int v6.1]) := by
                intro w131 h H locs hW ls hl
                unfold f_L_day_j131 at h
                refine lv_iconst (v := 0) hx hb dL_day_131 (by decide) ?_
                exact J132 0 h _ _ hW _ (lv_sub hl [0, 1, 2, 3, 4, 5, 6, 7] rfl)
              refine lv_if_lt (tgt := 131) hx hb dL_day_117 (by decide) (fun e46 => ?_) (fun e46 => ?_)
              · replace h := q_t e46 h
                exact J131 () h _ _ hW _ (lv_sub hl [0, 1, 2, 3, 4, 5, 6, 8] rfl)
              · replace h := q_f e46 h
                refine lv_aload_n hx hb dL_day_120 rfl (lv_at hl 1 rfl) ?_
                refine lv_iload hx hb dL_day_121 (lv_at hl 8 rfl) ?_
                obtain ⟨g47, h⟩ := q_g h
                refine r_iald C hW 1 0 rfl rfl g47 dL_day_123 ?_
                refine lv_if_ne (tgt := 131) hx hb dL_day_124 (by decide) (fun e48 => ?_) (fun e48 => ?_)
                · replace h := q_f e48 h
                  exact J131 () h _ _ hW _ (lv_sub hl [0, 1, 2, 3, 4, 5, 6, 8] rfl)
                · replace h := q_t e48 h
                  refine lv_iconst (v := 1) hx hb dL_day_127 (by decide) ?_
                  refine lv_goto (tgt := 132) hx hb dL_day_128 (by decide) ?_
                  exact J132 1 h _ _ hW _ (lv_sub hl [0, 1, 2, 3, 4, 5, 6, 8] rfl)
            refine lv_icmp_ge (tgt := 103) hx hb dL_day_96 (by decide) (fun e49 => ?_) (fun e49 => ?_)
            · replace h := q_t e49 h
              refine lv_aload_n hx hb dL_day_103 rfl (lv_at hl 3 rfl) ?_
              refine lv_iload hx hb dL_day_104 (lv_at hl 8 rfl) ?_
              obtain ⟨g50, h⟩ := q_g h
              refine r_iald C hW 3 0 rfl rfl g50 dL_day_106 ?_
              refine lv_iload hx hb dL_day_107 (lv_at hl 9 rfl) ?_
              refine lv_isub hx hb dL_day_109 ?_
              exact J110 ((v6.2.2.2.2.2.1 (v6.2.1).toNatClampNeg) - w61) h _ _ hW _ (lv_sub hl [0, 1, 2, 3, 4, 5, 6, 7, 8] rfl)
            · replace h := q_f e49 h
              refine lv_iconst (v := 0) hx hb dL_day_99 (by decide) ?_
              refine lv_goto (tgt := 110) hx hb dL_day_100 (by decide) ?_
              exact J110 0 h _ _ hW _ (lv_sub hl [0, 1, 2, 3, 4, 5, 6, 7, 8] rfl)
          refine lv_icmp_ge (tgt := 79) hx hb dL_day_72 (by decide) (fun e51 => ?_) (fun e51 => ?_)
          · replace h := q_t e51 h
            refine lv_aload_n hx hb dL_day_79 rfl (lv_at hl 2 rfl) ?_
            refine lv_iload hx hb dL_day_80 (lv_at hl 9 rfl) ?_
            obtain ⟨g52, h⟩ := q_g h
            refine r_iald C hW 1 0 rfl rfl g52 dL_day_82 ?_
            refine lv_iload hx hb dL_day_83 (lv_at hl 0 rfl) ?_
            refine lv_isub hx hb dL_day_85 ?_
            exact J86 ((v6.2.2.2.1 (v6.2.1).toNatClampNeg) - w61) h _ _ hW _ (lv_sub hl [1, 2, 3, 4, 5, 6, 7, 8, 9, 0] rfl)
          · replace h := q_f e51 h
            refine lv_iconst (v := 0) hx hb dL_day_75 (by decide) ?_
            refine lv_goto (tgt := 86) hx hb dL_day_76 (by decide) ?_
            exact J86 0 h _ _ hW _ (lv_sub hl [1, 2, 3, 4, 5, 6, 7, 8, 9, 0] rfl)
        have J59 : ∀ (w59 : Unit), f_L_day_j59 (lpN f_L_day_l6 n6) v6 w59 = some (r, x', y', z3', z4', z5', z6', z7') → ∀ (H : Heap) (locs : List Loc), WdG g Z s.heap H locs [[(A b, .inl (gI g, 48, .inl v6.2.2.1))], [(A2 b2, .inl (gI g, 48, .inl v6.2.2.2.1))], [(A3 b3, .inl (gI g, 48, .inl v6.2.2.2.2.1))], [(A4 b4, .inl (gI g, 48, .inl v6.2.2.2.2.2.1))], [(A5 b5, .inl (gI g, 32, .inl v6.2.2.2.2.2.2.1))], [(A6 b6, .inl (gI g, 32, .inl v6.2.2.2.2.2.2.2.1))], [(A7 b7, .inl (gI g, 10, .inl v6.2.2.2.2.2.2.2.2))]] → ∀ ls : Array Slot, lv_has ls 10 [(0, .ref (A b)), (1, .ref (A2 b2)), (2, .ref (A3 b3)), (3, .ref (A4 b4)), (4, .ref (A5 b5)), (5, .ref (A6 b6)), (6, .ref (A7 b7)), (7, .int v6.1), (8, .int v6.2.1), (9, .int (v6.2.2.2.2.2.2.2.2 (2 + (v6.2.1 / 16)).toNatClampNeg))] → W p l e R s m args below meth c H locs 0 0 Q (F0 m 59 ls []) := by
          intro w59 h H locs hW ls hl
          unfold f_L_day_j59 at h
          refine lv_iload hx hb dL_day_59 (lv_at hl 9 rfl) ?_
          exact J61 (v6.2.2.2.2.2.2.2.2 (2 + (v6.2.1 / 16)).toNatClampNeg) h _ _ hW _ (lv_sub hl [0, 1, 2, 3, 4, 5, 6, 7, 8] rfl)
        have J40 : ∀ (w40 : Unit), f_L_day_j40 (lpN f_L_day_l6 n6) v6 w40 = some (r, x', y', z3', z4', z5', z6', z7') → ∀ (H : Heap) (locs : List Loc), WdG g Z s.heap H locs [[(A b, .inl (gI g, 48, .inl v6.2.2.1))], [(A2 b2, .inl (gI g, 48, .inl v6.2.2.2.1))], [(A3 b3, .inl (gI g, 48, .inl v6.2.2.2.2.1))], [(A4 b4, .inl (gI g, 48, .inl v6.2.2.2.2.2.1))], [(A5 b5, .inl (gI g, 32, .inl v6.2.2.2.2.2.2.1))], [(A6 b6, .inl (gI g, 32, .inl v6.2.2.2.2.2.2.2.1))], [(A7 b7, .inl (gI g, 10, .inl v6.2.2.2.2.2.2.2.2))]] → ∀ ls : Array Slot, lv_has ls 10 [(0, .ref (A b)), (1, .ref (A2 b2)), (2, .ref (A3 b3)), (3, .ref (A4 b4)), (4, .ref (A5 b5)), (5, .ref (A6 b6)), (6, .ref (A7 b7)), (7, .int v6.1), (8, .int v6.2.1), (9, .int (v6.2.2.2.2.2.2.2.2 (2 + (v6.2.1 / 16)).toNatClampNeg))] → W p l e R s m args below meth c H locs 0 0 Q (F0 m 40 ls []) := by
          intro w40 h H locs hW ls hl
          unfold f_L_day_j40 at h
          refine lv_aload_n hx hb dL_day_40 rfl (lv_at hl 2 rfl) ?_
          refine lv_aload_n hx hb dL_day_41 rfl (lv_at hl 3 rfl) ?_
          refine lv_aload hx hb dL_day_42 (lv_at hl 6 rfl) ?_
          refine lv_iload hx hb dL_day_44 (lv_at hl 8 rfl) ?_
          obtain ⟨t53, h54, h⟩ := q_b h
          refine r_cSi C hW (nA := 4) (As := [.ref (A3 b3), .ref (A4 b4), .ref (A7 b7), .int v6.2.1]) (rest := []) (c_L_read l g A3 b3 A4 b4 A7 b7 v6.2.2.2.2.1 v6.2.2.2.2.2.1 v6.2.2.2.2.2.2.2.2 v6.2.1 _ h54) gL_day_L_read rfl wo_L_read (rmk hR rfl rfl) rfl rfl hl.1 (Nat.le_of_ble_eq_true rfl) rz dL_day_46 (n := 7) (is := [2, 3, 6]) (rs := [0, 1, 4, 5]) (bs' := [[(A b, .inl (gI g, 48, .inl v6.2.2.1))], [(A2 b2, .inl (gI g, 48, .inl v6.2.2.2.1))], [(A3 b3, .inl (gI g, 48, .inl v6.2.2.2.2.1))], [(A4 b4, .inl (gI g, 48, .inl v6.2.2.2.2.2.1))], [(A5 b5, .inl (gI g, 32, .inl v6.2.2.2.2.2.2.1))], [(A6 b6, .inl (gI g, 32, .inl v6.2.2.2.2.2.2.2.1))], [(A7 b7, .inl (gI g, 10, .inl v6.2.2.2.2.2.2.2.2))]]) rfl rfl pm_7bec6af1 rfl rfl rfl (fun H locs hW => ?_)
          refine lv_if_eq (tgt := 59) hx hb dL_day_49 (by decide) (fun e55 => ?_) (fun e55 => ?_)
          · replace h := q_t e55 h
            exact J59 () h _ _ hW _ (lv_sub hl [0, 1, 2, 3, 4, 5, 6, 7, 8, 9] rfl)
          · replace h := q_f e55 h
            refine lv_iload hx hb dL_day_52 (lv_at hl 9 rfl) ?_
            refine lv_iconst (v := 2) hx hb dL_day_54 (by decide) ?_
            have g56 : ¬ (2 : Int32) = 0 := by decide
            refine lv_idiv hx hb dL_day_55 g56 ?_
            refine lv_goto (tgt := 61) hx hb dL_day_56 (by decide) ?_
            exact J61 ((v6.2.2.2.2.2.2.2.2 (2 + (v6.2.1 / 16)).toNatClampNeg) / 2) h _ _ hW _ (lv_sub hl [0, 1, 2, 3, 4, 5, 6, 7, 8] rfl)
        refine lv_if_eq (tgt := 40) hx hb dL_day_29 (by decide) (fun e57 => ?_) (fun e57 => ?_)
        · replace h := q_t e57 h
          exact J40 () h _ _ hW _ (lv_sub hl [1, 2, 3, 4, 5, 6, 7, 8, 9, 0] rfl)
        · replace h := q_f e57 h
          refine lv_aload_n hx hb dL_day_32 rfl (lv_at hl 3 rfl) ?_
          refine lv_iload hx hb dL_day_33 (lv_at hl 9 rfl) ?_
          obtain ⟨g58, h⟩ := q_g h
          refine r_iald C hW 2 0 rfl rfl g58 dL_day_35 ?_
          refine lv_iconst (v := 1) hx hb dL_day_36 (by decide) ?_
          refine lv_icmp_ne (tgt := 59) hx hb dL_day_37 (by decide) (fun e59 => ?_) (fun e59 => ?_)
          · replace h := q_f e59 h
            exact J59 () h _ _ hW _ (lv_sub hl [1, 2, 3, 4, 5, 6, 7, 8, 9, 0] rfl)
          · replace h := q_t e59 h
            exact J40 () h _ _ hW _ (lv_sub hl [1, 2, 3, 4, 5, 6, 7, 8, 9, 0] rfl)
  exact L6 3000 (0, 0, x, y, z3, z4, z5, z6, z7) h _ _ hW _ (lv_sub hl [2, 3, 4, 5, 6, 7, 8, 1, 0] rfl)
