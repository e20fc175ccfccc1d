/-! a ghost beside the class: pure functions, no code of this claim -/
abbrev TX6s : Type := (Nat → Int32) × (Nat → Int32) × Int32 × (Nat → Int32) × Int32 × (Nat → Int32) × Int32 × (Nat → Int32) × (Nat → Int32) × Int32 × Int32 × Int32
def f_X6_in (p1 : Int32) (p2 : Int32) (p3 : Int32) : Option (Int32) :=
if p1 < p2 then (
some 0)
else (
if p3 < p1 then (
some 0)
else (
some 1))
def f_X6_isCell (p1 : Int32) (p2 : Int32) : Option (Int32) :=
(f_X6_in p1 0 2).bind fun t1 =>
if t1 = 0 then (
some 0)
else (
(f_X6_in p2 0 15).bind fun t4 =>
if t4 = 0 then (
some 0)
else (
some 1))
def f_X6_isLine (p1 : Int32) (p2 : Int32) : Option (Int32) :=
(f_X6_in p1 0 1).bind fun t1 =>
if t1 = 0 then (
some 0)
else (
(f_X6_in p2 0 15).bind fun t4 =>
if t4 = 0 then (
some 0)
else (
some 1))
def f_X6_cellAt (p1 : Int32) (p2 : Int32) : Option (Int32) :=
some (12 + (4 * ((16 * p1) + p2)))
def f_X6_lineAt (p1 : Int32) (p2 : Int32) : Option (Int32) :=
some (204 + (2 * ((16 * p1) + p2)))
def f_X6_wayAt (x : TX6s) (p1 : Int32) (p2 : Int32) : Option (Int32) :=
(f_X6_cellAt p1 p2).bind fun t1 =>
if t1 < 0 ∨ 268 ≤ (t1).toNatClampNeg then none else
if (x.1 (t1).toNatClampNeg) = 0 then (
some (-6))
else (
some ((x.1 (t1).toNatClampNeg) - 1))
def f_X6_record_l51 (k51 : (Int32 × TX6s) → Option (TX6s)) (v51 : Int32 × TX6s) : Option (TX6s) :=
if 268 ≤ v51.1 then (
some (v51.2.1, v51.2.2.1, (v51.2.2.2.1 + 1), v51.2.2.2.2.1, v51.2.2.2.2.2.1, v51.2.2.2.2.2.2.1, v51.2.2.2.2.2.2.2.1, v51.2.2.2.2.2.2.2.2.1, v51.2.2.2.2.2.2.2.2.2.1, v51.2.2.2.2.2.2.2.2.2.2.1, v51.2.2.2.2.2.2.2.2.2.2.2.1, v51.2.2.2.2.2.2.2.2.2.2.2.2))
else (
if v51.1 < 0 ∨ 268 ≤ (v51.1).toNatClampNeg then none else
if ((v51.2.2.2.1 * 268) + v51.1) < 0 ∨ 1340 ≤ ((v51.2.2.2.1 * 268) + v51.1).toNatClampNeg then none else
k51 ((v51.1 + 1), (v51.2.1, (upd v51.2.2.1 ((v51.2.2.2.1 * 268) + v51.1).toNatClampNeg (v51.2.1 (v51.1).toNatClampNeg)), v51.2.2.2.1, v51.2.2.2.2.1, v51.2.2.2.2.2.1, v51.2.2.2.2.2.2.1, v51.2.2.2.2.2.2.2.1, v51.2.2.2.2.2.2.2.2.1, v51.2.2.2.2.2.2.2.2.2.1, v51.2.2.2.2.2.2.2.2.2.2.1, v51.2.2.2.2.2.2.2.2.2.2.2.1, v51.2.2.2.2.2.2.2.2.2.2.2.2)))
def f_X6_record_j49 (w49 : TX6s) : Option (TX6s) :=
lpN f_X6_record_l51 3000 (0, w49)
def f_X6_record_l10 (k10 : (Int32 × TX6s) → Option (TX6s)) (v10 : Int32 × TX6s) : Option (TX6s) :=
if 1072 ≤ v10.1 then (
f_X6_record_j49 (v10.2.1, v10.2.2.1, (v10.2.2.2.1 - 1), v10.2.2.2.2.1, v10.2.2.2.2.2.1, v10.2.2.2.2.2.2.1, v10.2.2.2.2.2.2.2.1, v10.2.2.2.2.2.2.2.2.1, v10.2.2.2.2.2.2.2.2.2.1, v10.2.2.2.2.2.2.2.2.2.2.1, v10.2.2.2.2.2.2.2.2.2.2.2.1, v10.2.2.2.2.2.2.2.2.2.2.2.2))
else (
if (v10.1 + 268) < 0 ∨ 1340 ≤ (v10.1 + 268).toNatClampNeg then none else
if v10.1 < 0 ∨ 1340 ≤ (v10.1).toNatClampNeg then none else
k10 ((v10.1 + 1), (v10.2.1, (upd v10.2.2.1 (v10.1).toNatClampNeg (v10.2.2.1 (v10.1 + 268).toNatClampNeg)), v10.2.2.2.1, v10.2.2.2.2.1, v10.2.2.2.2.2.1, v10.2.2.2.2.2.2.1, v10.2.2.2.2.2.2.2.1, v10.2.2.2.2.2.2.2.2.1, v10.2.2.2.2.2.2.2.2.2.1, v10.2.2.2.2.2.2.2.2.2.2.1, v10.2.2.2.2.2.2.2.2.2.2.2.1, v10.2.2.2.2.2.2.2.2.2.2.2.2)))
def f_X6_record (x : TX6s) : Option (TX6s) :=
if x.2.2.1 = 5 then (
lpN f_X6_record_l10 3000 (0, x))
else (
f_X6_record_j49 x)
def f_X6_undo_l22 (k22 : (Int32 × TX6s) → Option (Int32 × TX6s)) (v22 : Int32 × TX6s) : Option (Int32 × TX6s) :=
if 268 ≤ v22.1 then (
some (v22.2.2.2.1, v22.2))
else (
if ((v22.2.2.2.1 * 268) + v22.1) < 0 ∨ 1340 ≤ ((v22.2.2.2.1 * 268) + v22.1).toNatClampNeg then none else
if v22.1 < 0 ∨ 268 ≤ (v22.1).toNatClampNeg then none else
k22 ((v22.1 + 1), ((upd v22.2.1 (v22.1).toNatClampNeg (v22.2.2.1 ((v22.2.2.2.1 * 268) + v22.1).toNatClampNeg)), v22.2.2.1, v22.2.2.2.1, v22.2.2.2.2.1, v22.2.2.2.2.2.1, v22.2.2.2.2.2.2.1, v22.2.2.2.2.2.2.2.1, v22.2.2.2.2.2.2.2.2.1, v22.2.2.2.2.2.2.2.2.2.1, v22.2.2.2.2.2.2.2.2.2.2.1, v22.2.2.2.2.2.2.2.2.2.2.2.1, v22.2.2.2.2.2.2.2.2.2.2.2.2)))
def f_X6_undo (x : TX6s) : Option (Int32 × TX6s) :=
if x.2.2.1 = 0 then (
some ((-3), x))
else (
lpN f_X6_undo_l22 3000 (0, (x.1, x.2.1, (x.2.2.1 - 1), x.2.2.2.1, x.2.2.2.2.1, x.2.2.2.2.2.1, x.2.2.2.2.2.2.1, x.2.2.2.2.2.2.2.1, x.2.2.2.2.2.2.2.2.1, x.2.2.2.2.2.2.2.2.2.1, x.2.2.2.2.2.2.2.2.2.2.1, x.2.2.2.2.2.2.2.2.2.2.2)))
def f_X6_save_l7 (k7 : (Int32 × TX6s) → Option (Int32 × TX6s)) (v7 : Int32 × TX6s) : Option (Int32 × TX6s) :=
if 268 ≤ v7.1 then (
if (6 : Int32) < 0 ∨ 268 ≤ (6 : Int32).toNatClampNeg then none else
some ((v7.2.1 (6 : Int32).toNatClampNeg), v7.2))
else (
if v7.1 < 0 ∨ 268 ≤ (v7.1).toNatClampNeg then none else
if v7.1 < 0 ∨ 268 ≤ (v7.1).toNatClampNeg then none else
k7 ((v7.1 + 1), (v7.2.1, v7.2.2.1, v7.2.2.2.1, (upd v7.2.2.2.2.1 (v7.1).toNatClampNeg (v7.2.1 (v7.1).toNatClampNeg)), v7.2.2.2.2.2.1, v7.2.2.2.2.2.2.1, v7.2.2.2.2.2.2.2.1, v7.2.2.2.2.2.2.2.2.1, v7.2.2.2.2.2.2.2.2.2.1, v7.2.2.2.2.2.2.2.2.2.2.1, v7.2.2.2.2.2.2.2.2.2.2.2.1, v7.2.2.2.2.2.2.2.2.2.2.2.2)))
def f_X6_save (x : TX6s) : Option (Int32 × TX6s) :=
lpN f_X6_save_l7 3000 (0, (x.1, x.2.1, x.2.2.1, x.2.2.2.1, 1, x.2.2.2.2.2.1, x.2.2.2.2.2.2.1, x.2.2.2.2.2.2.2.1, x.2.2.2.2.2.2.2.2.1, x.2.2.2.2.2.2.2.2.2.1, x.2.2.2.2.2.2.2.2.2.2.1, x.2.2.2.2.2.2.2.2.2.2.2))
def f_X6_restore_l16 (k16 : (Int32 × TX6s) → Option (Int32 × TX6s)) (v16 : Int32 × TX6s) : Option (Int32 × TX6s) :=
if 268 ≤ v16.1 then (
if (6 : Int32) < 0 ∨ 268 ≤ (6 : Int32).toNatClampNeg then none else
some ((v16.2.1 (6 : Int32).toNatClampNeg), v16.2))
else (
if v16.1 < 0 ∨ 268 ≤ (v16.1).toNatClampNeg then none else
if v16.1 < 0 ∨ 268 ≤ (v16.1).toNatClampNeg then none else
k16 ((v16.1 + 1), ((upd v16.2.1 (v16.1).toNatClampNeg (v16.2.2.2.2.1 (v16.1).toNatClampNeg)), v16.2.2.1, v16.2.2.2.1, v16.2.2.2.2.1, v16.2.2.2.2.2.1, v16.2.2.2.2.2.2.1, v16.2.2.2.2.2.2.2.1, v16.2.2.2.2.2.2.2.2.1, v16.2.2.2.2.2.2.2.2.2.1, v16.2.2.2.2.2.2.2.2.2.2.1, v16.2.2.2.2.2.2.2.2.2.2.2.1, v16.2.2.2.2.2.2.2.2.2.2.2.2)))
def f_X6_restore (x : TX6s) : Option (Int32 × TX6s) :=
if x.2.2.2.2.1 = 0 then (
some ((-3), x))
else (
(f_X6_record x).bind fun t2 =>
lpN f_X6_restore_l16 3000 (0, t2))
def f_X6_meets_j9 (p2 : Int32) (w9 : Unit) : Option (Int32) :=
if p2 = 1 then (
some 1)
else (
if p2 = 2 then (
some 1)
else (
some 0))
def f_X6_meets (p1 : Int32) (p2 : Int32) : Option (Int32) :=
if p1 = 0 then (
f_X6_meets_j9 p2 ())
else (
if p1 = 2 then (
f_X6_meets_j9 p2 ())
else (
some 0))
def f_X6_nearest_l3 (x : TX6s) (p1 : Int32) (p2 : Int32) (p3 : Int32) (k3 : Int32 → Option (Int32)) (v3 : Int32) : Option (Int32) :=
if 4 < v3 then (
some (-6))
else (
(f_X6_in (p2 + (p3 * v3)) 0 15).bind fun t2 =>
if t2 = 0 then (
k3 (v3 + 1))
else (
(f_X6_wayAt x p1 (p2 + (p3 * v3))).bind fun t5 =>
if t5 = (-6) then (
k3 (v3 + 1))
else (
(f_X6_wayAt x p1 (p2 + (p3 * v3))).bind fun t8 =>
some t8)))
def f_X6_nearest (x : TX6s) (p1 : Int32) (p2 : Int32) (p3 : Int32) : Option (Int32) :=
lpN (f_X6_nearest_l3 x p1 p2 p3) 3000 1
def f_X6_reason_j109 (x : TX6s) (p2 : Int32) (k57 : Int32 → Option (Int32)) (v57 : Int32) (w109 : Int32) : Option (Int32) :=
(f_X6_lineAt w109 p2).bind fun t13 =>
if t13 < 0 ∨ 268 ≤ (t13).toNatClampNeg then none else
if (x.1 (t13).toNatClampNeg) = 0 then (
some 2)
else (
if (x.1 (t13).toNatClampNeg) = 2 then (
some 2)
else (
k57 (v57 + 2)))
def f_X6_reason_l57 (x : TX6s) (p1 : Int32) (p2 : Int32) (p3 : Int32) (k57 : Int32 → Option (Int32)) (v57 : Int32) : Option (Int32) :=
if (p1 + 1) < v57 then (
some 0)
else (
(f_X6_in v57 0 2).bind fun t6 =>
if t6 = 0 then (
k57 (v57 + 2))
else (
if 2 ≤ p3 then (
k57 (v57 + 2))
else (
(f_X6_wayAt x v57 p2).bind fun t10 =>
if t10 = (1 - p3) then (
if p1 ≤ v57 then (
f_X6_reason_j109 x p2 k57 v57 p1)
else (
f_X6_reason_j109 x p2 k57 v57 v57))
else (
k57 (v57 + 2)))))
def f_X6_reason_j52 (x : TX6s) (p1 : Int32) (p2 : Int32) (p3 : Int32) (w52 : Unit) : Option (Int32) :=
lpN (f_X6_reason_l57 x p1 p2 p3) 3000 (p1 - 1)
def f_X6_reason_j34 (x : TX6s) (p1 : Int32) (p2 : Int32) (p3 : Int32) (t3 : Int32) (w34 : Unit) : Option (Int32) :=
if t3 = (-6) then (
f_X6_reason_j52 x p1 p2 p3 ())
else (
(f_X6_meets t3 p3).bind fun t20 =>
if t20 = 0 then (
f_X6_reason_j52 x p1 p2 p3 ())
else (
some 1))
def f_X6_reason (x : TX6s) (p1 : Int32) (p2 : Int32) (p3 : Int32) : Option (Int32) :=
(f_X6_nearest x p1 p2 1).bind fun t1 =>
(f_X6_nearest x p1 p2 (-1)).bind fun t3 =>
if t1 = (-6) then (
f_X6_reason_j34 x p1 p2 p3 t3 ())
else (
(f_X6_meets p3 t1).bind fun t24 =>
if t24 = 0 then (
f_X6_reason_j34 x p1 p2 p3 t3 ())
else (
some 1))
def f_X6_cellSigns_l7 (x : TX6s) (k7 : (Int32 × Int32) → Option (Int32)) (v7 : Int32 × Int32) : Option (Int32) :=
if 204 ≤ v7.2 then (
some v7.1)
else (
if v7.2 < 0 ∨ 268 ≤ (v7.2).toNatClampNeg then none else
if (x.1 (v7.2).toNatClampNeg) ≤ 0 then (
k7 ((v7.1 + 0), (v7.2 + 4)))
else (
k7 ((v7.1 + 1), (v7.2 + 4))))
def f_X6_cellSigns (x : TX6s) (p1 : Int32) : Option (Int32) :=
lpN (f_X6_cellSigns_l7 x) 3000 (0, (12 + p1))
def f_X6_whyNotArrow (x : TX6s) (p1 : Int32) (p2 : Int32) (p3 : Int32) : Option (Int32) :=
(f_X6_isCell p1 p2).bind fun t1 =>
if t1 = 0 then (
some (-1))
else (
(f_X6_in p3 0 2).bind fun t4 =>
if t4 = 0 then (
some (-2))
else (
(f_X6_reason x p1 p2 p3).bind fun t7 =>
if t7 ≤ 0 then (
some 0)
else (
some (-3))))
def f_X6_signs (x : TX6s) (p1 : Int32) (p2 : Int32) : Option (Int32 × TX6s) :=
if p1 < 0 ∨ 268 ≤ (p1).toNatClampNeg then none else
if p2 = 0 then (
if (p1 + 1) < 0 ∨ 268 ≤ (p1 + 1).toNatClampNeg then none else
some (p2, ((upd (upd x.1 (p1).toNatClampNeg p2) (p1 + 1).toNatClampNeg 0), x.2.1, x.2.2.1, x.2.2.2.1, x.2.2.2.2.1, x.2.2.2.2.2.1, x.2.2.2.2.2.2.1, x.2.2.2.2.2.2.2.1, x.2.2.2.2.2.2.2.2.1, x.2.2.2.2.2.2.2.2.2.1, x.2.2.2.2.2.2.2.2.2.2.1, x.2.2.2.2.2.2.2.2.2.2.2)))
else (
if (p1 + 1) < 0 ∨ 268 ≤ (p1 + 1).toNatClampNeg then none else
some (p2, ((upd (upd x.1 (p1).toNatClampNeg p2) (p1 + 1).toNatClampNeg 100), x.2.1, x.2.2.1, x.2.2.2.1, x.2.2.2.2.1, x.2.2.2.2.2.1, x.2.2.2.2.2.2.1, x.2.2.2.2.2.2.2.1, x.2.2.2.2.2.2.2.2.1, x.2.2.2.2.2.2.2.2.2.1, x.2.2.2.2.2.2.2.2.2.2.1, x.2.2.2.2.2.2.2.2.2.2.2)))
def f_X6_arrow (x : TX6s) (p1 : Int32) (p2 : Int32) (p3 : Int32) : Option (Int32 × TX6s) :=
(f_X6_whyNotArrow x p1 p2 p3).bind fun t1 =>
if 0 ≤ t1 then (
(f_X6_record x).bind fun t4 =>
(f_X6_cellAt p1 p2).bind fun t6 =>
(f_X6_signs t4 t6 (p3 + 1)).bind fun t8 =>
(f_X6_cellSigns t8.2 0).bind fun t10 =>
some (t10, t8.2))
else (
some (t1, x))
def f_X6_whyNotWord (p1 : Int32) (p2 : Int32) (p3 : Int32) : Option (Int32) :=
(f_X6_isCell p1 p2).bind fun t1 =>
if t1 = 0 then (
some (-1))
else (
(f_X6_in p3 0 3).bind fun t4 =>
if t4 = 0 then (
some (-2))
else (
some 0))
def f_X6_word (x : TX6s) (p1 : Int32) (p2 : Int32) (p3 : Int32) : Option (Int32 × TX6s) :=
(f_X6_whyNotWord p1 p2 p3).bind fun t1 =>
if 0 ≤ t1 then (
(f_X6_record x).bind fun t4 =>
(f_X6_cellAt p1 p2).bind fun t6 =>
(f_X6_signs t4 (t6 + 2) (p3 + 1)).bind fun t8 =>
(f_X6_cellSigns t8.2 2).bind fun t10 =>
some (t10, t8.2))
else (
some (t1, x))
def f_X6_whyNotDash (p1 : Int32) (p2 : Int32) (p3 : Int32) : Option (Int32) :=
(f_X6_isLine p1 p2).bind fun t1 =>
if t1 = 0 then (
some (-1))
else (
(f_X6_in p3 0 3).bind fun t4 =>
if t4 = 0 then (
some (-2))
else (
some 0))
def f_X6_dash (x : TX6s) (p1 : Int32) (p2 : Int32) (p3 : Int32) : Option (Int32 × TX6s) :=
(f_X6_whyNotDash p1 p2 p3).bind fun t1 =>
if 0 ≤ t1 then (
(f_X6_record x).bind fun t4 =>
(f_X6_lineAt p1 p2).bind fun t6 =>
if t6 < 0 ∨ 268 ≤ (t6).toNatClampNeg then none else
(f_X6_lineAt p1 p2).bind fun t9 =>
(f_X6_signs t4 t9 p3).bind fun t11 =>
some ((t4.1 (t6).toNatClampNeg), t11.2))
else (
some (t1, x))
def f_X6_erase_j50 (t4 : TX6s) (t6 : Int32) (w34 : Int32) (w50 : Int32) : Option (Int32 × TX6s) :=
(f_X6_signs t4 t6 0).bind fun t10 =>
(f_X6_signs t10.2 (t6 + 2) 0).bind fun t12 =>
some ((w34 + w50), t12.2)
def f_X6_erase_j34 (t4 : TX6s) (t6 : Int32) (w34 : Int32) : Option (Int32 × TX6s) :=
if (t6 + 2) < 0 ∨ 268 ≤ (t6 + 2).toNatClampNeg then none else
if (t4.1 (t6 + 2).toNatClampNeg) ≤ 0 then (
f_X6_erase_j50 t4 t6 w34 0)
else (
f_X6_erase_j50 t4 t6 w34 1)
def f_X6_erase (x : TX6s) (p1 : Int32) (p2 : Int32) : Option (Int32 × TX6s) :=
(f_X6_isCell p1 p2).bind fun t1 =>
if t1 = 0 then (
some ((-1), x))
else (
(f_X6_record x).bind fun t4 =>
(f_X6_cellAt p1 p2).bind fun t6 =>
if t6 < 0 ∨ 268 ≤ (t6).toNatClampNeg then none else
if (t4.1 (t6).toNatClampNeg) ≤ 0 then (
f_X6_erase_j34 t4 t6 0)
else (
f_X6_erase_j34 t4 t6 1))
def f_X6_set_j24 (x : TX6s) (p1 : Int32) (p2 : Int32) (w24 : Int32) : Option (Int32 × TX6s) :=
(f_X6_in p2 1 w24).bind fun t4 =>
if t4 = 0 then (
some ((-2), x))
else (
(f_X6_record x).bind fun t7 =>
if p1 < 0 ∨ 268 ≤ (p1).toNatClampNeg then none else
if p1 < 0 ∨ 268 ≤ (p1).toNatClampNeg then none else
some ((t7.1 (p1).toNatClampNeg), ((upd t7.1 (p1).toNatClampNeg p2), t7.2.1, t7.2.2.1, t7.2.2.2.1, t7.2.2.2.2.1, t7.2.2.2.2.2.1, t7.2.2.2.2.2.2.1, t7.2.2.2.2.2.2.2.1, t7.2.2.2.2.2.2.2.2.1, t7.2.2.2.2.2.2.2.2.2.1, t7.2.2.2.2.2.2.2.2.2.2.1, t7.2.2.2.2.2.2.2.2.2.2.2)))
def f_X6_set (x : TX6s) (p1 : Int32) (p2 : Int32) : Option (Int32 × TX6s) :=
(f_X6_in p1 0 1).bind fun t1 =>
if t1 = 0 then (
some ((-1), x))
else (
if p1 = 0 then (
f_X6_set_j24 x p1 p2 100)
else (
f_X6_set_j24 x p1 p2 40))
def f_X6_traffic (x : TX6s) (p1 : Int32) (p2 : Int32) : Option (Int32 × TX6s) :=
(f_X6_in p1 0 2).bind fun t1 =>
if t1 = 0 then (
some ((-1), x))
else (
(f_X6_in p2 0 20).bind fun t4 =>
if t4 = 0 then (
some ((-2), x))
else (
(f_X6_record x).bind fun t7 =>
if (2 + p1) < 0 ∨ 268 ≤ (2 + p1).toNatClampNeg then none else
if (2 + p1) < 0 ∨ 268 ≤ (2 + p1).toNatClampNeg then none else
some ((t7.1 (2 + p1).toNatClampNeg), ((upd t7.1 (2 + p1).toNatClampNeg p2), t7.2.1, t7.2.2.1, t7.2.2.2.1, t7.2.2.2.2.1, t7.2.2.2.2.2.1, t7.2.2.2.2.2.2.1, t7.2.2.2.2.2.2.2.1, t7.2.2.2.2.2.2.2.2.1, t7.2.2.2.2.2.2.2.2.2.1, t7.2.2.2.2.2.2.2.2.2.2.1, t7.2.2.2.2.2.2.2.2.2.2.2))))
def f_X6_bring (x : TX6s) (p1 : Int32) : Option (Int32 × TX6s) :=
(f_X6_in p1 1 99).bind fun t1 =>
if t1 = 0 then (
some ((-2), x))
else (
if (5 : Int32) < 0 ∨ 268 ≤ (5 : Int32).toNatClampNeg then none else
if ((x.1 (5 : Int32).toNatClampNeg) + p1) ≤ 99 then (
(f_X6_record x).bind fun t6 =>
if (5 : Int32) < 0 ∨ 268 ≤ (5 : Int32).toNatClampNeg then none else
if (5 : Int32) < 0 ∨ 268 ≤ (5 : Int32).toNatClampNeg then none else
if (5 : Int32) < 0 ∨ 268 ≤ (5 : Int32).toNatClampNeg then none else
some (((upd t6.1 (5 : Int32).toNatClampNeg ((t6.1 (5 : Int32).toNatClampNeg) + p1)) (5 : Int32).toNatClampNeg), ((upd t6.1 (5 : Int32).toNatClampNeg ((t6.1 (5 : Int32).toNatClampNeg) + p1)), t6.2.1, t6.2.2.1, t6.2.2.2.1, t6.2.2.2.2.1, t6.2.2.2.2.2.1, t6.2.2.2.2.2.2.1, t6.2.2.2.2.2.2.2.1, t6.2.2.2.2.2.2.2.2.1, t6.2.2.2.2.2.2.2.2.2.1, t6.2.2.2.2.2.2.2.2.2.2.1, t6.2.2.2.2.2.2.2.2.2.2.2)))
else (
some ((-4), x)))
def f_X6_isRead (x : TX6s) (p1 : Int32) (p2 : Int32) : Option (Int32) :=
(f_X6_cellAt p1 p2).bind fun t1 =>
if (t1 + 2) < 0 ∨ 268 ≤ (t1 + 2).toNatClampNeg then none else
if (x.1 (t1 + 2).toNatClampNeg) ≤ 0 then (
some 0)
else (
if (t1 + 3) < 0 ∨ 268 ≤ (t1 + 3).toNatClampNeg then none else
if (0 : Int32) < 0 ∨ 268 ≤ (0 : Int32).toNatClampNeg then none else
if (x.1 (t1 + 3).toNatClampNeg) < (x.1 (0 : Int32).toNatClampNeg) then (
some 0)
else (
some 1))
def f_X6_loses_j44 (x : TX6s) (p1 : Int32) (w44 : Int32) : Option (Int32 × TX6s) :=
if (p1 + 1) < 0 ∨ 268 ≤ (p1 + 1).toNatClampNeg then none else
if (p1 + 1) < 0 ∨ 268 ≤ (p1 + 1).toNatClampNeg then none else
if ((upd x.1 (p1 + 1).toNatClampNeg w44) (p1 + 1).toNatClampNeg) = 0 then (
if p1 < 0 ∨ 268 ≤ (p1).toNatClampNeg then none else
some (1, ((upd (upd x.1 (p1 + 1).toNatClampNeg w44) (p1).toNatClampNeg 0), x.2.1, x.2.2.1, x.2.2.2.1, x.2.2.2.2.1, x.2.2.2.2.2.1, x.2.2.2.2.2.2.1, x.2.2.2.2.2.2.2.1, x.2.2.2.2.2.2.2.2.1, x.2.2.2.2.2.2.2.2.2.1, x.2.2.2.2.2.2.2.2.2.2.1, x.2.2.2.2.2.2.2.2.2.2.2)))
else (
some (0, ((upd x.1 (p1 + 1).toNatClampNeg w44), x.2.1, x.2.2.1, x.2.2.2.1, x.2.2.2.2.1, x.2.2.2.2.2.1, x.2.2.2.2.2.2.1, x.2.2.2.2.2.2.2.1, x.2.2.2.2.2.2.2.2.1, x.2.2.2.2.2.2.2.2.2.1, x.2.2.2.2.2.2.2.2.2.2.1, x.2.2.2.2.2.2.2.2.2.2.2)))
def f_X6_loses (x : TX6s) (p1 : Int32) (p2 : Int32) : Option (Int32 × TX6s) :=
if p1 < 0 ∨ 268 ≤ (p1).toNatClampNeg then none else
if (x.1 (p1).toNatClampNeg) = 0 then (
some (0, x))
else (
if (p1 + 1) < 0 ∨ 268 ≤ (p1 + 1).toNatClampNeg then none else
if (x.1 (p1 + 1).toNatClampNeg) ≤ p2 then (
f_X6_loses_j44 x p1 0)
else (
if (p1 + 1) < 0 ∨ 268 ≤ (p1 + 1).toNatClampNeg then none else
f_X6_loses_j44 x p1 ((x.1 (p1 + 1).toNatClampNeg) - p2)))
def f_X6_lossOf_j37 (x : TX6s) (p1 : Int32) (w37 : Int32) : Option (Int32) :=
if w37 = 0 then (
if (2 + p1) < 0 ∨ 268 ≤ (2 + p1).toNatClampNeg then none else
some (x.1 (2 + p1).toNatClampNeg))
else (
if (2 + p1) < 0 ∨ 268 ≤ (2 + p1).toNatClampNeg then none else
some ((x.1 (2 + p1).toNatClampNeg) / 2))
def f_X6_lossOf_j36 (x : TX6s) (p1 : Int32) (w36 : Unit) : Option (Int32) :=
f_X6_lossOf_j37 x p1 0
def f_X6_lossOf_j23 (x : TX6s) (p1 : Int32) (p2 : Int32) (w23 : Unit) : Option (Int32) :=
(f_X6_isRead x p1 p2).bind fun t8 =>
if t8 = 0 then (
f_X6_lossOf_j36 x p1 ())
else (
f_X6_lossOf_j37 x p1 1)
def f_X6_lossOf (x : TX6s) (p1 : Int32) (p2 : Int32) : Option (Int32) :=
(f_X6_cellAt p1 p2).bind fun t1 =>
if (t1 + 2) < 0 ∨ 268 ≤ (t1 + 2).toNatClampNeg then none else
if (x.1 (t1 + 2).toNatClampNeg) = 1 then (
f_X6_lossOf_j23 x p1 p2 ())
else (
if (x.1 (t1 + 2).toNatClampNeg) = 2 then (
f_X6_lossOf_j23 x p1 p2 ())
else (
f_X6_lossOf_j36 x p1 ()))
def f_X6_day_l61 (k4 : (Int32 × Int32 × TX6s) → Option (Int32 × TX6s)) (v4 : Int32 × Int32 × TX6s) (k61 : (Int32 × Int32 × TX6s) → Option (Int32 × TX6s)) (v61 : Int32 × Int32 × TX6s) : Option (Int32 × TX6s) :=
if 2 ≤ v61.2.1 then (
k4 (v61.1, (v4.2.1 + 1), v61.2.2))
else (
(f_X6_lineAt v61.2.1 v4.2.1).bind fun t8 =>
if (2 + v61.2.1) < 0 ∨ 268 ≤ (2 + v61.2.1).toNatClampNeg then none else
if ((2 + v61.2.1) + 1) < 0 ∨ 268 ≤ ((2 + v61.2.1) + 1).toNatClampNeg then none else
(f_X6_loses v61.2.2 t8 (((v61.2.2.1 (2 + v61.2.1).toNatClampNeg) + (v61.2.2.1 ((2 + v61.2.1) + 1).toNatClampNeg)) / 2)).bind fun t13 =>
k61 ((v61.1 + t13.1), (v61.2.1 + 1), t13.2))
def f_X6_day_l12 (k4 : (Int32 × Int32 × TX6s) → Option (Int32 × TX6s)) (v4 : Int32 × Int32 × TX6s) (k12 : (Int32 × Int32 × TX6s) → Option (Int32 × TX6s)) (v12 : Int32 × Int32 × TX6s) : Option (Int32 × TX6s) :=
if 3 ≤ v12.2.1 then (
lpN (f_X6_day_l61 k4 v4) 3000 (v12.1, 0, v12.2.2))
else (
(f_X6_lossOf v12.2.2 v12.2.1 v4.2.1).bind fun t15 =>
(f_X6_cellAt v12.2.1 v4.2.1).bind fun t17 =>
(f_X6_loses v12.2.2 t17 t15).bind fun t19 =>
(f_X6_cellAt v12.2.1 v4.2.1).bind fun t21 =>
(f_X6_loses t19.2 (t21 + 2) t15).bind fun t23 =>
k12 ((v12.1 + (t19.1 + t23.1)), (v12.2.1 + 1), t23.2))
def f_X6_day_l4 (k4 : (Int32 × Int32 × TX6s) → Option (Int32 × TX6s)) (v4 : Int32 × Int32 × TX6s) : Option (Int32 × TX6s) :=
if 16 ≤ v4.2.1 then (
if (6 : Int32) < 0 ∨ 268 ≤ (6 : Int32).toNatClampNeg then none else
if (6 : Int32) < 0 ∨ 268 ≤ (6 : Int32).toNatClampNeg then none else
if (9 : Int32) < 0 ∨ 268 ≤ (9 : Int32).toNatClampNeg then none else
if (9 : Int32) < 0 ∨ 268 ≤ (9 : Int32).toNatClampNeg then none else
some (v4.1, ((upd (upd v4.2.2.1 (6 : Int32).toNatClampNeg ((v4.2.2.1 (6 : Int32).toNatClampNeg) + 1)) (9 : Int32).toNatClampNeg (((upd v4.2.2.1 (6 : Int32).toNatClampNeg ((v4.2.2.1 (6 : Int32).toNatClampNeg) + 1)) (9 : Int32).toNatClampNeg) + v4.1)), v4.2.2.2.1, v4.2.2.2.2.1, v4.2.2.2.2.2.1, v4.2.2.2.2.2.2.1, v4.2.2.2.2.2.2.2.1, v4.2.2.2.2.2.2.2.2.1, v4.2.2.2.2.2.2.2.2.2.1, v4.2.2.2.2.2.2.2.2.2.2.1, v4.2.2.2.2.2.2.2.2.2.2.2.1, v4.2.2.2.2.2.2.2.2.2.2.2.2.1, v4.2.2.2.2.2.2.2.2.2.2.2.2.2)))
else (
lpN (f_X6_day_l12 k4 v4) 3000 (v4.1, 0, v4.2.2))
def f_X6_day (x : TX6s) : Option (Int32 × TX6s) :=
lpN f_X6_day_l4 3000 (0, 0, x)
def f_X6_pass_l21 (p1 : Int32) (k21 : (Int32 × Int32 × TX6s) → Option (Int32 × TX6s)) (v21 : Int32 × Int32 × TX6s) : Option (Int32 × TX6s) :=
if p1 ≤ v21.2.1 then (
some (v21.1, v21.2.2))
else (
(f_X6_day v21.2.2).bind fun t7 =>
k21 ((v21.1 + t7.1), (v21.2.1 + 1), t7.2))
def f_X6_pass (x : TX6s) (p1 : Int32) : Option (Int32 × TX6s) :=
(f_X6_in p1 1 30).bind fun t1 =>
if t1 = 0 then (
some ((-2), x))
else (
(f_X6_record x).bind fun t4 =>
lpN (f_X6_pass_l21 p1) 3000 (0, 0, t4))
def f_X6_isWeak (x : TX6s) (p1 : Int32) : Option (Int32) :=
if p1 < 0 ∨ 268 ≤ (p1).toNatClampNeg then none else
if (x.1 (p1).toNatClampNeg) ≤ 0 then (
some 0)
else (
if (p1 + 1) < 0 ∨ 268 ≤ (p1 + 1).toNatClampNeg then none else
if 60 ≤ (x.1 (p1 + 1).toNatClampNeg) then (
some 0)
else (
some 1))
def f_X6_signAt (p1 : Int32) (p2 : Int32) : Option (Int32) :=
if 3 ≤ p2 then (
if 6 ≤ p2 then (
(f_X6_lineAt (p2 - 6) p1).bind fun t3 =>
some t3)
else (
(f_X6_cellAt (p2 - 3) p1).bind fun t5 =>
some t5))
else (
(f_X6_cellAt p2 p1).bind fun t7 =>
some (t7 + 2))
def f_X6_whyNotNight (x : TX6s) (p1 : Int32) (p2 : Int32) : Option (Int32) :=
(f_X6_in p1 0 15).bind fun t1 =>
if t1 = 0 then (
some (-1))
else (
(f_X6_in p2 0 15).bind fun t4 =>
if t4 = 0 then (
some (-1))
else (
if (5 : Int32) < 0 ∨ 268 ≤ (5 : Int32).toNatClampNeg then none else
if (x.1 (5 : Int32).toNatClampNeg) = 0 then (
some (-3))
else (
some 0)))
def f_X6_works_l29 (w12 : Int32) (k17 : (Int32 × Int32 × TX6s) → Option (Int32 × TX6s)) (v17 : Int32 × Int32 × TX6s) (k29 : (Int32 × Int32 × TX6s) → Option (Int32 × TX6s)) (v29 : Int32 × Int32 × TX6s) : Option (Int32 × TX6s) :=
if 8 ≤ v29.2.1 then (
k17 (v29.1, (v17.2.1 + w12), v29.2.2))
else (
(f_X6_signAt v17.2.1 v29.2.1).bind fun t7 =>
(f_X6_isWeak v29.2.2 t7).bind fun t9 =>
if t9 = 0 then (
k29 (v29.1, (v29.2.1 + 1), v29.2.2))
else (
if (5 : Int32) < 0 ∨ 268 ≤ (5 : Int32).toNatClampNeg then none else
if (v29.2.2.1 (5 : Int32).toNatClampNeg) ≤ 0 then (
k29 (v29.1, (v29.2.1 + 1), v29.2.2))
else (
if (1 : Int32) < 0 ∨ 268 ≤ (1 : Int32).toNatClampNeg then none else
if (v29.2.2.1 (1 : Int32).toNatClampNeg) ≤ v29.1 then (
k29 (v29.1, (v29.2.1 + 1), v29.2.2))
else (
if (t7 + 1) < 0 ∨ 268 ≤ (t7 + 1).toNatClampNeg then none else
if (5 : Int32) < 0 ∨ 268 ≤ (5 : Int32).toNatClampNeg then none else
if (5 : Int32) < 0 ∨ 268 ≤ (5 : Int32).toNatClampNeg then none else
k29 ((v29.1 + 1), (v29.2.1 + 1), ((upd (upd v29.2.2.1 (t7 + 1).toNatClampNeg 100) (5 : Int32).toNatClampNeg (((upd v29.2.2.1 (t7 + 1).toNatClampNeg 100) (5 : Int32).toNatClampNeg) - 1)), v29.2.2.2.1, v29.2.2.2.2.1, v29.2.2.2.2.2.1, v29.2.2.2.2.2.2.1, v29.2.2.2.2.2.2.2.1, v29.2.2.2.2.2.2.2.2.1, v29.2.2.2.2.2.2.2.2.2.1, v29.2.2.2.2.2.2.2.2.2.2.1, v29.2.2.2.2.2.2.2.2.2.2.2.1, v29.2.2.2.2.2.2.2.2.2.2.2.2.1, v29.2.2.2.2.2.2.2.2.2.2.2.2.2))))))
def f_X6_works_l17 (p2 : Int32) (w12 : Int32) (k17 : (Int32 × Int32 × TX6s) → Option (Int32 × TX6s)) (v17 : Int32 × Int32 × TX6s) : Option (Int32 × TX6s) :=
if v17.2.1 = (p2 + w12) then (
if (7 : Int32) < 0 ∨ 268 ≤ (7 : Int32).toNatClampNeg then none else
if (7 : Int32) < 0 ∨ 268 ≤ (7 : Int32).toNatClampNeg then none else
if (8 : Int32) < 0 ∨ 268 ≤ (8 : Int32).toNatClampNeg then none else
if (8 : Int32) < 0 ∨ 268 ≤ (8 : Int32).toNatClampNeg then none else
some (v17.1, ((upd (upd v17.2.2.1 (7 : Int32).toNatClampNeg ((v17.2.2.1 (7 : Int32).toNatClampNeg) + 1)) (8 : Int32).toNatClampNeg (((upd v17.2.2.1 (7 : Int32).toNatClampNeg ((v17.2.2.1 (7 : Int32).toNatClampNeg) + 1)) (8 : Int32).toNatClampNeg) + v17.1)), v17.2.2.2.1, v17.2.2.2.2.1, v17.2.2.2.2.2.1, v17.2.2.2.2.2.2.1, v17.2.2.2.2.2.2.2.1, v17.2.2.2.2.2.2.2.2.1, v17.2.2.2.2.2.2.2.2.2.1, v17.2.2.2.2.2.2.2.2.2.2.1, v17.2.2.2.2.2.2.2.2.2.2.2.1, v17.2.2.2.2.2.2.2.2.2.2.2.2.1, v17.2.2.2.2.2.2.2.2.2.2.2.2.2)))
else (
lpN (f_X6_works_l29 w12 k17 v17) 3000 (v17.1, 0, v17.2.2))
def f_X6_works_j12 (x : TX6s) (p1 : Int32) (p2 : Int32) (w12 : Int32) : Option (Int32 × TX6s) :=
lpN (f_X6_works_l17 p2 w12) 3000 (0, p1, x)
def f_X6_works (x : TX6s) (p1 : Int32) (p2 : Int32) : Option (Int32 × TX6s) :=
if p2 < p1 then (
f_X6_works_j12 x p1 p2 (-1))
else (
f_X6_works_j12 x p1 p2 1)
def f_X6_night (x : TX6s) (p1 : Int32) (p2 : Int32) : Option (Int32 × TX6s) :=
(f_X6_whyNotNight x p1 p2).bind fun t1 =>
if 0 ≤ t1 then (
(f_X6_record x).bind fun t4 =>
(f_X6_works t4 p1 p2).bind fun t6 =>
some (t6.1, t6.2))
else (
some (t1, x))
def f_X6_isFree (x : TX6s) (p1 : Int32) (p2 : Int32) (p3 : Int32) : Option (Int32) :=
(f_X6_wayAt x p1 p2).bind fun t1 =>
if t1 = (1 - p3) then (
some 0)
else (
some 1)
def f_X6_cell (x : TX6s) (p1 : Int32) (p2 : Int32) (p3 : Int32) : Option (Int32) :=
(f_X6_isCell p1 p2).bind fun t1 =>
if t1 = 0 then (
some (-1))
else (
(f_X6_cellAt p1 p2).bind fun t4 =>
if p3 < 0 then (
some (-2))
else if 6 < p3 then (
some (-2))
else if p3 = 0 then (
(f_X6_wayAt x p1 p2).bind fun t9 =>
some t9)
else if p3 = 1 then (
if (t4 + p3) < 0 ∨ 268 ≤ (t4 + p3).toNatClampNeg then none else
some (x.1 (t4 + p3).toNatClampNeg))
else if p3 = 2 then (
if (t4 + 2) < 0 ∨ 268 ≤ (t4 + 2).toNatClampNeg then none else
if (x.1 (t4 + 2).toNatClampNeg) = 0 then (
some (-6))
else (
if (t4 + 2) < 0 ∨ 268 ≤ (t4 + 2).toNatClampNeg then none else
some ((x.1 (t4 + 2).toNatClampNeg) - 1)))
else if p3 = 3 then (
if (t4 + p3) < 0 ∨ 268 ≤ (t4 + p3).toNatClampNeg then none else
some (x.1 (t4 + p3).toNatClampNeg))
else if p3 = 4 then (
(f_X6_isRead x p1 p2).bind fun t20 =>
if t20 = 0 then (
some 0)
else (
some 1))
else if p3 = 5 then (
(f_X6_isFree x p1 p2 (p3 - 5)).bind fun t24 =>
if t24 = 0 then (
some 0)
else (
some 1))
else if p3 = 6 then (
(f_X6_isFree x p1 p2 (p3 - 5)).bind fun t28 =>
if t28 = 0 then (
some 0)
else (
some 1))
else none)
def f_X6_line (x : TX6s) (p1 : Int32) (p2 : Int32) (p3 : Int32) : Option (Int32) :=
(f_X6_isLine p1 p2).bind fun t1 =>
if t1 = 0 then (
some (-1))
else (
(f_X6_in p3 0 1).bind fun t4 =>
if t4 = 0 then (
some (-2))
else (
(f_X6_lineAt p1 p2).bind fun t7 =>
if (t7 + p3) < 0 ∨ 268 ≤ (t7 + p3).toNatClampNeg then none else
some (x.1 (t7 + p3).toNatClampNeg)))
def f_X6_canChange_j14 (x : TX6s) (p1 : Int32) (p2 : Int32) (p3 : Int32) (p4 : Int32) (w14 : Int32) : Option (Int32) :=
(f_X6_lineAt w14 p3).bind fun t1 =>
if t1 < 0 ∨ 268 ≤ (t1).toNatClampNeg then none else
(f_X6_isFree x p2 p3 p4).bind fun t4 =>
if t4 = 0 then (
some 0)
else (
if (x.1 (t1).toNatClampNeg) = 0 then (
some 1)
else (
if (x.1 (t1).toNatClampNeg) = 2 then (
some 1)
else (
if (x.1 (t1).toNatClampNeg) = 3 then (
if p2 ≤ p1 then (
some 0)
else (
some 1))
else (
some 0))))
def f_X6_canChange (x : TX6s) (p1 : Int32) (p2 : Int32) (p3 : Int32) (p4 : Int32) : Option (Int32) :=
if p2 ≤ p1 then (
f_X6_canChange_j14 x p1 p2 p3 p4 p2)
else (
f_X6_canChange_j14 x p1 p2 p3 p4 p1)
def f_X6_mayChange_j32 (x : TX6s) (p1 : Int32) (p2 : Int32) (p3 : Int32) (p4 : Int32) (w32 : Unit) : Option (Int32) :=
(f_X6_in p4 0 1).bind fun t7 =>
if t7 = 0 then (
some (-2))
else (
(f_X6_canChange x p1 p2 p3 p4).bind fun t10 =>
if t10 = 0 then (
some 0)
else (
some 1))
def f_X6_mayChange (x : TX6s) (p1 : Int32) (p2 : Int32) (p3 : Int32) (p4 : Int32) : Option (Int32) :=
(f_X6_isCell p1 p3).bind fun t1 =>
if t1 = 0 then (
some (-1))
else (
(f_X6_isCell p2 p3).bind fun t4 =>
if t4 = 0 then (
some (-1))
else (
if (p1 - p2) = 1 then (
f_X6_mayChange_j32 x p1 p2 p3 p4 ())
else (
if (p2 - p1) = 1 then (
f_X6_mayChange_j32 x p1 p2 p3 p4 ())
else (
some (-2)))))
def f_X6_readable_l11 (x : TX6s) (k4 : (Int32 × Int32) → Option (Int32)) (v4 : Int32 × Int32) (k11 : (Int32 × Int32) → Option (Int32)) (v11 : Int32 × Int32) : Option (Int32) :=
if 16 ≤ v11.2 then (
k4 (v11.1, (v4.2 + 1)))
else (
(f_X6_isRead x v4.2 v11.2).bind fun t3 =>
if t3 = 0 then (
k11 ((v11.1 + 0), (v11.2 + 1)))
else (
k11 ((v11.1 + 1), (v11.2 + 1))))
def f_X6_readable_l4 (x : TX6s) (k4 : (Int32 × Int32) → Option (Int32)) (v4 : Int32 × Int32) : Option (Int32) :=
if 3 ≤ v4.2 then (
some v4.1)
else (
lpN (f_X6_readable_l11 x k4 v4) 3000 (v4.1, 0))
def f_X6_readable (x : TX6s) : Option (Int32) :=
lpN (f_X6_readable_l4 x) 3000 (0, 0)
def f_X6_strengths_l5 (x : TX6s) (k5 : (Int32 × Int32) → Option (Int32)) (v5 : Int32 × Int32) : Option (Int32) :=
if 268 ≤ v5.2 then (
some v5.1)
else (
if v5.2 < 0 ∨ 268 ≤ (v5.2).toNatClampNeg then none else
k5 ((v5.1 + (x.1 (v5.2).toNatClampNeg)), (v5.2 + 2)))
def f_X6_strengths (x : TX6s) : Option (Int32) :=
lpN (f_X6_strengths_l5 x) 3000 (0, 13)
def f_X6_dashes_l6 (x : TX6s) (k6 : (Int32 × Int32) → Option (Int32)) (v6 : Int32 × Int32) : Option (Int32) :=
if 268 ≤ v6.2 then (
some v6.1)
else (
if v6.2 < 0 ∨ 268 ≤ (v6.2).toNatClampNeg then none else
if (x.1 (v6.2).toNatClampNeg) ≤ 0 then (
k6 ((v6.1 + 0), (v6.2 + 2)))
else (
k6 ((v6.1 + 1), (v6.2 + 2))))
def f_X6_dashes (x : TX6s) : Option (Int32) :=
lpN (f_X6_dashes_l6 x) 3000 (0, 204)
def f_X6_total (x : TX6s) (p1 : Int32) : Option (Int32) :=
if p1 < 0 then (
some (-2))
else if 14 < p1 then (
some (-2))
else if p1 = 0 then (
(f_X6_cellSigns x 0).bind fun t4 =>
some t4)
else if p1 = 1 then (
(f_X6_cellSigns x 2).bind fun t7 =>
some t7)
else if p1 = 2 then (
(f_X6_dashes x).bind fun t10 =>
some t10)
else if p1 = 3 then (
(f_X6_readable x).bind fun t13 =>
some t13)
else if p1 = 4 then (
if ((5 + p1) - 4) < 0 ∨ 268 ≤ ((5 + p1) - 4).toNatClampNeg then none else
some (x.1 ((5 + p1) - 4).toNatClampNeg))
else if p1 = 5 then (
if ((5 + p1) - 4) < 0 ∨ 268 ≤ ((5 + p1) - 4).toNatClampNeg then none else
some (x.1 ((5 + p1) - 4).toNatClampNeg))
else if p1 = 6 then (
if ((5 + p1) - 4) < 0 ∨ 268 ≤ ((5 + p1) - 4).toNatClampNeg then none else
some (x.1 ((5 + p1) - 4).toNatClampNeg))
else if p1 = 7 then (
if ((5 + p1) - 4) < 0 ∨ 268 ≤ ((5 + p1) - 4).toNatClampNeg then none else
some (x.1 ((5 + p1) - 4).toNatClampNeg))
else if p1 = 8 then (
if ((5 + p1) - 4) < 0 ∨ 268 ≤ ((5 + p1) - 4).toNatClampNeg then none else
some (x.1 ((5 + p1) - 4).toNatClampNeg))
else if p1 = 9 then (
(f_X6_strengths x).bind fun t26 =>
some t26)
else if p1 = 10 then (
if ((2 + p1) - 10) < 0 ∨ 268 ≤ ((2 + p1) - 10).toNatClampNeg then none else
some (x.1 ((2 + p1) - 10).toNatClampNeg))
else if p1 = 11 then (
if ((2 + p1) - 10) < 0 ∨ 268 ≤ ((2 + p1) - 10).toNatClampNeg then none else
some (x.1 ((2 + p1) - 10).toNatClampNeg))
else if p1 = 12 then (
if ((2 + p1) - 10) < 0 ∨ 268 ≤ ((2 + p1) - 10).toNatClampNeg then none else
some (x.1 ((2 + p1) - 10).toNatClampNeg))
else if p1 = 13 then (
if (p1 - 13) < 0 ∨ 268 ≤ (p1 - 13).toNatClampNeg then none else
some (x.1 (p1 - 13).toNatClampNeg))
else if p1 = 14 then (
if (p1 - 13) < 0 ∨ 268 ≤ (p1 - 13).toNatClampNeg then none else
some (x.1 (p1 - 13).toNatClampNeg))
else none
def f_X6_whyNot (x : TX6s) (p1 : Int32) (p2 : Int32) (p3 : Int32) : Option (Int32) :=
(f_X6_isCell p1 p2).bind fun t1 =>
if t1 = 0 then (
some (-1))
else (
(f_X6_in p3 0 2).bind fun t4 =>
if t4 = 0 then (
some (-2))
else (
(f_X6_reason x p1 p2 p3).bind fun t7 =>
some t7))
def f_X6_readableFor_j79 (v43 : Int32 × Int32) (w79 : Unit) : Option (Int32) :=
if v43.2 ≤ 300 then (
some v43.2)
else (
some (-6))
def f_X6_readableFor_l43 (x : TX6s) (p1 : Int32) (p2 : Int32) (k43 : (Int32 × Int32) → Option (Int32)) (v43 : Int32 × Int32) : Option (Int32) :=
if 300 < v43.2 then (
f_X6_readableFor_j79 v43 ())
else (
if (0 : Int32) < 0 ∨ 268 ≤ (0 : Int32).toNatClampNeg then none else
if v43.1 < (x.1 (0 : Int32).toNatClampNeg) then (
f_X6_readableFor_j79 v43 ())
else (
(f_X6_lossOf x p1 p2).bind fun t13 =>
k43 ((v43.1 - t13), (v43.2 + 1))))
def f_X6_readableFor (x : TX6s) (p1 : Int32) (p2 : Int32) : Option (Int32) :=
(f_X6_isCell p1 p2).bind fun t1 =>
if t1 = 0 then (
some (-1))
else (
(f_X6_cellAt p1 p2).bind fun t4 =>
if (t4 + 2) < 0 ∨ 268 ≤ (t4 + 2).toNatClampNeg then none else
if (x.1 (t4 + 2).toNatClampNeg) = 0 then (
some (-6))
else (
if (t4 + 3) < 0 ∨ 268 ≤ (t4 + 3).toNatClampNeg then none else
lpN (f_X6_readableFor_l43 x p1 p2) 3000 ((x.1 (t4 + 3).toNatClampNeg), 0)))
def f_X6_wouldPaint_j85 (v5 : Int32 × Int32) (w85 : Int32) : Option (Int32) :=
if w85 ≤ v5.1 then (
some w85)
else (
some v5.1)
def f_X6_wouldPaint_l14 (x : TX6s) (k5 : (Int32 × Int32) → Option (Int32)) (v5 : Int32 × Int32) (k14 : (Int32 × Int32) → Option (Int32)) (v14 : Int32 × Int32) : Option (Int32) :=
if 8 ≤ v14.2 then (
k5 (v14.1, (v5.2 + 1)))
else (
(f_X6_signAt v5.2 v14.2).bind fun t9 =>
(f_X6_isWeak x t9).bind fun t11 =>
if t11 = 0 then (
k14 ((v14.1 + 0), (v14.2 + 1)))
else (
k14 ((v14.1 + 1), (v14.2 + 1))))
def f_X6_wouldPaint_l5 (x : TX6s) (p2 : Int32) (k5 : (Int32 × Int32) → Option (Int32)) (v5 : Int32 × Int32) : Option (Int32) :=
if p2 < v5.2 then (
if (5 : Int32) < 0 ∨ 268 ≤ (5 : Int32).toNatClampNeg then none else
if (1 : Int32) < 0 ∨ 268 ≤ (1 : Int32).toNatClampNeg then none else
if (x.1 (1 : Int32).toNatClampNeg) ≤ (x.1 (5 : Int32).toNatClampNeg) then (
if (1 : Int32) < 0 ∨ 268 ≤ (1 : Int32).toNatClampNeg then none else
f_X6_wouldPaint_j85 v5 (x.1 (1 : Int32).toNatClampNeg))
else (
if (5 : Int32) < 0 ∨ 268 ≤ (5 : Int32).toNatClampNeg then none else
f_X6_wouldPaint_j85 v5 (x.1 (5 : Int32).toNatClampNeg)))
else (
lpN (f_X6_wouldPaint_l14 x k5 v5) 3000 (v5.1, 0))
def f_X6_wouldPaint (x : TX6s) (p1 : Int32) (p2 : Int32) : Option (Int32) :=
lpN (f_X6_wouldPaint_l5 x p2) 3000 (0, p1)
def f_X6_bestNight_j127 (v19 : Int32 × Int32 × Int32) (k41 : (Int32 × Int32 × Int32) → Option (Int32)) (v41 : Int32 × Int32 × Int32) (w127 : Int32 × Int32) : Option (Int32) :=
if v19.2.2 = 0 then (
k41 (w127.1, w127.2, (v41.2.2 + 1)))
else (
k41 (w127.1, w127.2, (v41.2.2 + (2 * v19.2.2))))
def f_X6_bestNight_j126 (v19 : Int32 × Int32 × Int32) (k41 : (Int32 × Int32 × Int32) → Option (Int32)) (v41 : Int32 × Int32 × Int32) (w113 : Int32) (w126 : Int32) : Option (Int32) :=
f_X6_bestNight_j127 v19 k41 v41 (w113, w126)
def f_X6_bestNight_j113 (v19 : Int32 × Int32 × Int32) (k41 : (Int32 × Int32 × Int32) → Option (Int32)) (v41 : Int32 × Int32 × Int32) (t10 : Int32) (w113 : Int32) : Option (Int32) :=
if t10 ≤ v41.2.1 then (
f_X6_bestNight_j126 v19 k41 v41 w113 v41.2.1)
else (
f_X6_bestNight_j126 v19 k41 v41 w113 t10)
def f_X6_bestNight_j90 (x : TX6s) (v19 : Int32 × Int32 × Int32) (v28 : Int32 × Int32 × Int32) (k41 : (Int32 × Int32 × Int32) → Option (Int32)) (v41 : Int32 × Int32 × Int32) (w76 : Int32) (w90 : Int32) : Option (Int32) :=
(f_X6_wouldPaint x w76 w90).bind fun t10 =>
if t10 ≤ v41.2.1 then (
f_X6_bestNight_j113 v19 k41 v41 t10 v41.1)
else (
f_X6_bestNight_j113 v19 k41 v41 t10 ((16 * v28.2.2) + v41.2.2))
def f_X6_bestNight_j76 (x : TX6s) (v19 : Int32 × Int32 × Int32) (v28 : Int32 × Int32 × Int32) (k41 : (Int32 × Int32 × Int32) → Option (Int32)) (v41 : Int32 × Int32 × Int32) (w76 : Int32) : Option (Int32) :=
if v41.2.2 ≤ v28.2.2 then (
f_X6_bestNight_j90 x v19 v28 k41 v41 w76 v28.2.2)
else (
f_X6_bestNight_j90 x v19 v28 k41 v41 w76 v41.2.2)
def f_X6_bestNight_l41 (x : TX6s) (v19 : Int32 × Int32 × Int32) (k28 : (Int32 × Int32 × Int32) → Option (Int32)) (v28 : Int32 × Int32 × Int32) (k41 : (Int32 × Int32 × Int32) → Option (Int32)) (v41 : Int32 × Int32 × Int32) : Option (Int32) :=
if (v28.2.2 + v19.2.2) < v41.2.2 then (
k28 (v41.1, v41.2.1, (v28.2.2 + 1)))
else (
(f_X6_in v41.2.2 0 15).bind fun t6 =>
if t6 = 0 then (
f_X6_bestNight_j127 v19 k41 v41 (v41.1, v41.2.1))
else (
if v41.2.2 ≤ v28.2.2 then (
f_X6_bestNight_j76 x v19 v28 k41 v41 v41.2.2)
else (
f_X6_bestNight_j76 x v19 v28 k41 v41 v28.2.2)))
def f_X6_bestNight_l28 (x : TX6s) (k19 : (Int32 × Int32 × Int32) → Option (Int32)) (v19 : Int32 × Int32 × Int32) (k28 : (Int32 × Int32 × Int32) → Option (Int32)) (v28 : Int32 × Int32 × Int32) : Option (Int32) :=
if 16 ≤ v28.2.2 then (
k19 (v28.1, v28.2.1, (v19.2.2 + 1)))
else (
lpN (f_X6_bestNight_l41 x v19 k28 v28) 3000 (v28.1, v28.2.1, (v28.2.2 - v19.2.2)))
def f_X6_bestNight_l19 (x : TX6s) (k19 : (Int32 × Int32 × Int32) → Option (Int32)) (v19 : Int32 × Int32 × Int32) : Option (Int32) :=
if 16 ≤ v19.2.2 then (
some v19.1)
else (
lpN (f_X6_bestNight_l28 x k19 v19) 3000 (v19.1, v19.2.1, 0))
def f_X6_bestNight (x : TX6s) : Option (Int32) :=
if (5 : Int32) < 0 ∨ 268 ≤ (5 : Int32).toNatClampNeg then none else
if (x.1 (5 : Int32).toNatClampNeg) = 0 then (
some (-3))
else (
lpN (f_X6_bestNight_l19 x) 3000 ((-6), 0, 0))
def f_X6_fewestChanges_j314 (v55 : Int32 × TX6s) (k279 : (Int32 × Int32) → Option (Int32 × TX6s)) (v279 : Int32 × Int32) (w314 : Unit) : Option (Int32 × TX6s) :=
if v279.2 < 0 ∨ 3 ≤ (v279.2).toNatClampNeg then none else
k279 ((v55.2.2.2.2.2.2.2.2.1 (v279.2).toNatClampNeg), (v279.2 + 1))
def f_X6_fewestChanges_l279 (v55 : Int32 × TX6s) (k279 : (Int32 × Int32) → Option (Int32 × TX6s)) (v279 : Int32 × Int32) : Option (Int32 × TX6s) :=
if 3 ≤ v279.2 then (
some (v279.1, v55.2))
else (
if v279.2 < 0 ∨ 3 ≤ (v279.2).toNatClampNeg then none else
if (v55.2.2.2.2.2.2.2.2.1 (v279.2).toNatClampNeg) = (-6) then (
k279 (v279.1, (v279.2 + 1)))
else (
if v279.1 = (-6) then (
f_X6_fewestChanges_j314 v55 k279 v279 ())
else (
if v279.2 < 0 ∨ 3 ≤ (v279.2).toNatClampNeg then none else
if v279.1 ≤ (v55.2.2.2.2.2.2.2.2.1 (v279.2).toNatClampNeg) then (
k279 (v279.1, (v279.2 + 1)))
else (
f_X6_fewestChanges_j314 v55 k279 v279 ()))))
def f_X6_fewestChanges_j233 (v133 : Int32 × TX6s) (k145 : (Int32 × TX6s) → Option (Int32 × TX6s)) (v145 : Int32 × TX6s) (w233 : Unit) : Option (Int32 × TX6s) :=
if v133.1 < 0 ∨ 3 ≤ (v133.1).toNatClampNeg then none else
if v145.1 < 0 ∨ 3 ≤ (v145.1).toNatClampNeg then none else
k145 ((v145.1 + 2), (v145.2.1, v145.2.2.1, v145.2.2.2.1, v145.2.2.2.2.1, v145.2.2.2.2.2.1, v145.2.2.2.2.2.2.1, v145.2.2.2.2.2.2.2.1, (upd v145.2.2.2.2.2.2.2.2.1 (v145.1).toNatClampNeg ((v145.2.2.2.2.2.2.2.2.1 (v133.1).toNatClampNeg) + 1)), v145.2.2.2.2.2.2.2.2.2.1, v145.2.2.2.2.2.2.2.2.2.2.1, v145.2.2.2.2.2.2.2.2.2.2.2.1, v145.2.2.2.2.2.2.2.2.2.2.2.2))
def f_X6_fewestChanges_j195 (v133 : Int32 × TX6s) (k145 : (Int32 × TX6s) → Option (Int32 × TX6s)) (v145 : Int32 × TX6s) (w195 : Int32) : Option (Int32 × TX6s) :=
if w195 = 0 then (
k145 ((v145.1 + 2), v145.2))
else (
if v145.1 < 0 ∨ 3 ≤ (v145.1).toNatClampNeg then none else
if (v145.2.2.2.2.2.2.2.2.1 (v145.1).toNatClampNeg) = (-6) then (
f_X6_fewestChanges_j233 v133 k145 v145 ())
else (
if v133.1 < 0 ∨ 3 ≤ (v133.1).toNatClampNeg then none else
if v145.1 < 0 ∨ 3 ≤ (v145.1).toNatClampNeg then none else
if (v145.2.2.2.2.2.2.2.2.1 (v145.1).toNatClampNeg) ≤ ((v145.2.2.2.2.2.2.2.2.1 (v133.1).toNatClampNeg) + 1) then (
k145 ((v145.1 + 2), v145.2))
else (
f_X6_fewestChanges_j233 v133 k145 v145 ())))
def f_X6_fewestChanges_j194 (v133 : Int32 × TX6s) (k145 : (Int32 × TX6s) → Option (Int32 × TX6s)) (v145 : Int32 × TX6s) (w194 : Unit) : Option (Int32 × TX6s) :=
f_X6_fewestChanges_j195 v133 k145 v145 0
def f_X6_fewestChanges_l145 (p1 : Int32) (w73 : Int32) (k133 : (Int32 × TX6s) → Option (Int32 × TX6s)) (v133 : Int32 × TX6s) (k145 : (Int32 × TX6s) → Option (Int32 × TX6s)) (v145 : Int32 × TX6s) : Option (Int32 × TX6s) :=
if (v133.1 + 1) < v145.1 then (
k133 ((v133.1 + 1), v145.2))
else (
(f_X6_in v145.1 0 2).bind fun t20 =>
if t20 = 0 then (
f_X6_fewestChanges_j194 v133 k145 v145 ())
else (
if v133.1 < 0 ∨ 3 ≤ (v133.1).toNatClampNeg then none else
if (v145.2.2.2.2.2.2.2.2.1 (v133.1).toNatClampNeg) = (-6) then (
f_X6_fewestChanges_j194 v133 k145 v145 ())
else (
(f_X6_canChange v145.2 v133.1 v145.1 w73 p1).bind fun t33 =>
if t33 = 0 then (
f_X6_fewestChanges_j194 v133 k145 v145 ())
else (
f_X6_fewestChanges_j195 v133 k145 v145 1))))
def f_X6_fewestChanges_l133 (p1 : Int32) (w73 : Int32) (k124 : (Int32 × TX6s) → Option (Int32 × TX6s)) (v124 : Int32 × TX6s) (k133 : (Int32 × TX6s) → Option (Int32 × TX6s)) (v133 : Int32 × TX6s) : Option (Int32 × TX6s) :=
if 3 ≤ v133.1 then (
k124 ((v124.1 + 1), v133.2))
else (
lpN (f_X6_fewestChanges_l145 p1 w73 k133 v133) 3000 ((v133.1 - 1), v133.2))
def f_X6_fewestChanges_l124 (p1 : Int32) (k55 : (Int32 × TX6s) → Option (Int32 × TX6s)) (v55 : Int32 × TX6s) (w73 : Int32) (k124 : (Int32 × TX6s) → Option (Int32 × TX6s)) (v124 : Int32 × TX6s) : Option (Int32 × TX6s) :=
if 3 ≤ v124.1 then (
k55 ((v55.1 + 1), v124.2))
else (
lpN (f_X6_fewestChanges_l133 p1 w73 k124 v124) 3000 (0, v124.2))
def f_X6_fewestChanges_l78 (p1 : Int32) (k55 : (Int32 × TX6s) → Option (Int32 × TX6s)) (v55 : Int32 × TX6s) (w73 : Int32) (k78 : (Int32 × TX6s) → Option (Int32 × TX6s)) (v78 : Int32 × TX6s) : Option (Int32 × TX6s) :=
if 3 ≤ v78.1 then (
lpN (f_X6_fewestChanges_l124 p1 k55 v55 w73) 3000 (0, v78.2))
else (
(f_X6_isFree v78.2 v78.1 w73 p1).bind fun t36 =>
if t36 = 0 then (
if v78.1 < 0 ∨ 3 ≤ (v78.1).toNatClampNeg then none else
k78 ((v78.1 + 1), (v78.2.1, v78.2.2.1, v78.2.2.2.1, v78.2.2.2.2.1, v78.2.2.2.2.2.1, v78.2.2.2.2.2.2.1, v78.2.2.2.2.2.2.2.1, (upd v78.2.2.2.2.2.2.2.2.1 (v78.1).toNatClampNeg (-6)), v78.2.2.2.2.2.2.2.2.2.1, v78.2.2.2.2.2.2.2.2.2.2.1, v78.2.2.2.2.2.2.2.2.2.2.2.1, v78.2.2.2.2.2.2.2.2.2.2.2.2)))
else (
if v78.1 < 0 ∨ 3 ≤ (v78.1).toNatClampNeg then none else
if v78.1 < 0 ∨ 3 ≤ (v78.1).toNatClampNeg then none else
k78 ((v78.1 + 1), (v78.2.1, v78.2.2.1, v78.2.2.2.1, v78.2.2.2.2.1, v78.2.2.2.2.2.1, v78.2.2.2.2.2.2.1, v78.2.2.2.2.2.2.2.1, (upd v78.2.2.2.2.2.2.2.2.1 (v78.1).toNatClampNeg (v78.2.2.2.2.2.2.2.2.1 (v78.1).toNatClampNeg)), v78.2.2.2.2.2.2.2.2.2.1, v78.2.2.2.2.2.2.2.2.2.2.1, v78.2.2.2.2.2.2.2.2.2.2.2.1, v78.2.2.2.2.2.2.2.2.2.2.2.2))))
def f_X6_fewestChanges_j73 (p1 : Int32) (k55 : (Int32 × TX6s) → Option (Int32 × TX6s)) (v55 : Int32 × TX6s) (w73 : Int32) : Option (Int32 × TX6s) :=
lpN (f_X6_fewestChanges_l78 p1 k55 v55 w73) 3000 (0, v55.2)
def f_X6_fewestChanges_l55 (p1 : Int32) (k55 : (Int32 × TX6s) → Option (Int32 × TX6s)) (v55 : Int32 × TX6s) : Option (Int32 × TX6s) :=
if 16 ≤ v55.1 then (
lpN (f_X6_fewestChanges_l279 v55) 3000 ((-6), 0))
else (
if p1 = 0 then (
f_X6_fewestChanges_j73 p1 k55 v55 v55.1)
else (
f_X6_fewestChanges_j73 p1 k55 v55 (15 - v55.1)))
def f_X6_fewestChanges_l25 (p1 : Int32) (p2 : Int32) (k25 : (Int32 × TX6s) → Option (Int32 × TX6s)) (v25 : Int32 × TX6s) : Option (Int32 × TX6s) :=
if 3 ≤ v25.1 then (
lpN (f_X6_fewestChanges_l55 p1) 3000 (0, v25.2))
else (
if v25.1 = p2 then (
if v25.1 < 0 ∨ 3 ≤ (v25.1).toNatClampNeg then none else
k25 ((v25.1 + 1), (v25.2.1, v25.2.2.1, v25.2.2.2.1, v25.2.2.2.2.1, v25.2.2.2.2.2.1, v25.2.2.2.2.2.2.1, v25.2.2.2.2.2.2.2.1, (upd v25.2.2.2.2.2.2.2.2.1 (v25.1).toNatClampNeg 0), v25.2.2.2.2.2.2.2.2.2.1, v25.2.2.2.2.2.2.2.2.2.2.1, v25.2.2.2.2.2.2.2.2.2.2.2.1, v25.2.2.2.2.2.2.2.2.2.2.2.2)))
else (
if v25.1 < 0 ∨ 3 ≤ (v25.1).toNatClampNeg then none else
k25 ((v25.1 + 1), (v25.2.1, v25.2.2.1, v25.2.2.2.1, v25.2.2.2.2.1, v25.2.2.2.2.2.1, v25.2.2.2.2.2.2.1, v25.2.2.2.2.2.2.2.1, (upd v25.2.2.2.2.2.2.2.2.1 (v25.1).toNatClampNeg (-6)), v25.2.2.2.2.2.2.2.2.2.1, v25.2.2.2.2.2.2.2.2.2.2.1, v25.2.2.2.2.2.2.2.2.2.2.2.1, v25.2.2.2.2.2.2.2.2.2.2.2.2))))
def f_X6_fewestChanges (x : TX6s) (p1 : Int32) (p2 : Int32) : Option (Int32 × TX6s) :=
(f_X6_in p2 0 2).bind fun t1 =>
if t1 = 0 then (
some ((-1), x))
else (
(f_X6_in p1 0 1).bind fun t4 =>
if t4 = 0 then (
some ((-2), x))
else (
lpN (f_X6_fewestChanges_l25 p1 p2) 3000 (0, x)))
def f_X6_append (x : TX6s) (p1 : Int32) : Option (Int32 × TX6s) :=
(f_X6_in p1 33 126).bind fun t1 =>
if t1 = 0 then (
some ((-2), x))
else (
if x.2.2.2.2.2.2.1 = 70 then (
some ((-4), x))
else (
if x.2.2.2.2.2.2.1 < 0 ∨ 70 ≤ (x.2.2.2.2.2.2.1).toNatClampNeg then none else
some ((x.2.2.2.2.2.2.1 + 1), (x.1, x.2.1, x.2.2.1, x.2.2.2.1, x.2.2.2.2.1, (upd x.2.2.2.2.2.1 (x.2.2.2.2.2.2.1).toNatClampNeg (vp_nar .char (((p1).toUInt32 % 65536).toInt32))), (x.2.2.2.2.2.2.1 + 1), x.2.2.2.2.2.2.2.1, x.2.2.2.2.2.2.2.2.1, x.2.2.2.2.2.2.2.2.2.1, x.2.2.2.2.2.2.2.2.2.2.1, x.2.2.2.2.2.2.2.2.2.2.2))))
def f_X6_clearText (x : TX6s) : Option (Int32 × TX6s) :=
some (x.2.2.2.2.2.2.1, (x.1, x.2.1, x.2.2.1, x.2.2.2.1, x.2.2.2.2.1, x.2.2.2.2.2.1, 0, x.2.2.2.2.2.2.2.1, x.2.2.2.2.2.2.2.2.1, x.2.2.2.2.2.2.2.2.2.1, x.2.2.2.2.2.2.2.2.2.2.1, x.2.2.2.2.2.2.2.2.2.2.2))
def f_X6_letter (x : TX6s) : Option (Int32) :=
if x.2.2.2.2.2.2.1 ≤ x.2.2.2.2.2.2.2.2.2.2.1 then (
some (-6))
else (
if x.2.2.2.2.2.2.2.2.2.2.1 < 0 ∨ 70 ≤ (x.2.2.2.2.2.2.2.2.2.2.1).toNatClampNeg then none else
some (x.2.2.2.2.2.1 (x.2.2.2.2.2.2.2.2.2.2.1).toNatClampNeg))
def f_X6_wants_j23 (x : TX6s) (w23 : Int32) : Option (TX6s) :=
some (x.1, x.2.1, x.2.2.1, x.2.2.2.1, x.2.2.2.2.1, x.2.2.2.2.2.1, x.2.2.2.2.2.2.1, x.2.2.2.2.2.2.2.1, x.2.2.2.2.2.2.2.2.1, x.2.2.2.2.2.2.2.2.2.1, (x.2.2.2.2.2.2.2.2.2.2.1 + 1), w23)
def f_X6_wants (x : TX6s) (p1 : Int32) : Option (TX6s) :=
if x.2.2.2.2.2.2.2.2.2.2.2 = (-6) then (
if p1 = 0 then (
f_X6_wants_j23 x x.2.2.2.2.2.2.2.2.2.2.1)
else (
f_X6_wants_j23 x (-6)))
else (
some x)
def f_X6_figure (x : TX6s) (p1 : Int32) : Option (Int32 × TX6s) :=
(f_X6_letter x).bind fun t1 =>
(f_X6_in (t1 - 48) 0 p1).bind fun t3 =>
(f_X6_wants x t3).bind fun t5 =>
some ((t1 - 48), t5)
def f_X6_mile (x : TX6s) : Option (Int32 × TX6s) :=
(f_X6_letter x).bind fun t1 =>
(f_X6_in (t1 - 97) 0 15).bind fun t3 =>
(f_X6_wants x t3).bind fun t5 =>
some ((t1 - 97), t5)
def f_X6_way_j29 (x : TX6s) (t1 : Int32) (w29 : Int32) : Option (Int32 × TX6s) :=
(f_X6_wants x w29).bind fun t3 =>
if t1 = 117 then (
some (0, t3))
else (
if t1 = 100 then (
some (1, t3))
else (
some (2, t3)))
def f_X6_way_j24 (x : TX6s) (t1 : Int32) (w24 : Unit) : Option (Int32 × TX6s) :=
f_X6_way_j29 x t1 1
def f_X6_way (x : TX6s) : Option (Int32 × TX6s) :=
(f_X6_letter x).bind fun t1 =>
if t1 = 117 then (
f_X6_way_j24 x t1 ())
else (
if t1 = 100 then (
f_X6_way_j24 x t1 ())
else (
if t1 = 98 then (
f_X6_way_j24 x t1 ())
else (
f_X6_way_j29 x t1 0)))
def f_X6_readOrder_j158 (w158 : TX6s) : Option (TX6s) :=
some (w158.1, w158.2.1, w158.2.2.1, w158.2.2.2.1, w158.2.2.2.2.1, w158.2.2.2.2.2.1, w158.2.2.2.2.2.2.1, w158.2.2.2.2.2.2.2.1, w158.2.2.2.2.2.2.2.2.1, (w158.2.2.2.2.2.2.2.2.2.1 + 1), w158.2.2.2.2.2.2.2.2.2.2.1, w158.2.2.2.2.2.2.2.2.2.2.2)
def f_X6_readOrder_j157 (t3 : TX6s) (w157 : Int32 × TX6s) : Option (TX6s) :=
if ((4 * t3.2.2.2.2.2.2.2.2.2.1) + 3) < 0 ∨ 144 ≤ ((4 * t3.2.2.2.2.2.2.2.2.2.1) + 3).toNatClampNeg then none else
f_X6_readOrder_j158 (w157.2.1, w157.2.2.1, w157.2.2.2.1, w157.2.2.2.2.1, w157.2.2.2.2.2.1, w157.2.2.2.2.2.2.1, w157.2.2.2.2.2.2.2.1, w157.2.2.2.2.2.2.2.2.1, (upd w157.2.2.2.2.2.2.2.2.2.1 ((4 * t3.2.2.2.2.2.2.2.2.2.1) + 3).toNatClampNeg w157.1), w157.2.2.2.2.2.2.2.2.2.2.1, w157.2.2.2.2.2.2.2.2.2.2.2.1, w157.2.2.2.2.2.2.2.2.2.2.2.2)
def f_X6_readOrder_j116 (t1 : Int32) (t3 : TX6s) (w116 : Int32) : Option (TX6s) :=
(f_X6_figure (t3.1, t3.2.1, t3.2.2.1, t3.2.2.2.1, t3.2.2.2.2.1, t3.2.2.2.2.2.1, t3.2.2.2.2.2.2.1, t3.2.2.2.2.2.2.2.1, (upd t3.2.2.2.2.2.2.2.2.1 (4 * t3.2.2.2.2.2.2.2.2.2.1).toNatClampNeg t1), t3.2.2.2.2.2.2.2.2.2.1, t3.2.2.2.2.2.2.2.2.2.2.1, t3.2.2.2.2.2.2.2.2.2.2.2) w116).bind fun t8 =>
if ((4 * t3.2.2.2.2.2.2.2.2.2.1) + 1) < 0 ∨ 144 ≤ ((4 * t3.2.2.2.2.2.2.2.2.2.1) + 1).toNatClampNeg then none else
(f_X6_mile (t8.2.1, t8.2.2.1, t8.2.2.2.1, t8.2.2.2.2.1, t8.2.2.2.2.2.1, t8.2.2.2.2.2.2.1, t8.2.2.2.2.2.2.2.1, t8.2.2.2.2.2.2.2.2.1, (upd t8.2.2.2.2.2.2.2.2.2.1 ((4 * t3.2.2.2.2.2.2.2.2.2.1) + 1).toNatClampNeg t8.1), t8.2.2.2.2.2.2.2.2.2.2.1, t8.2.2.2.2.2.2.2.2.2.2.2.1, t8.2.2.2.2.2.2.2.2.2.2.2.2)).bind fun t11 =>
if ((4 * t3.2.2.2.2.2.2.2.2.2.1) + 2) < 0 ∨ 144 ≤ ((4 * t3.2.2.2.2.2.2.2.2.2.1) + 2).toNatClampNeg then none else
if t1 = 97 then (
(f_X6_way (t11.2.1, t11.2.2.1, t11.2.2.2.1, t11.2.2.2.2.1, t11.2.2.2.2.2.1, t11.2.2.2.2.2.2.1, t11.2.2.2.2.2.2.2.1, t11.2.2.2.2.2.2.2.2.1, (upd t11.2.2.2.2.2.2.2.2.2.1 ((4 * t3.2.2.2.2.2.2.2.2.2.1) + 2).toNatClampNeg t11.1), t11.2.2.2.2.2.2.2.2.2.2.1, t11.2.2.2.2.2.2.2.2.2.2.2.1, t11.2.2.2.2.2.2.2.2.2.2.2.2)).bind fun t18 =>
f_X6_readOrder_j157 t3 (t18.1, t18.2))
else (
(f_X6_figure (t11.2.1, t11.2.2.1, t11.2.2.2.1, t11.2.2.2.2.1, t11.2.2.2.2.2.1, t11.2.2.2.2.2.2.1, t11.2.2.2.2.2.2.2.1, t11.2.2.2.2.2.2.2.2.1, (upd t11.2.2.2.2.2.2.2.2.2.1 ((4 * t3.2.2.2.2.2.2.2.2.2.1) + 2).toNatClampNeg t11.1), t11.2.2.2.2.2.2.2.2.2.2.1, t11.2.2.2.2.2.2.2.2.2.2.2.1, t11.2.2.2.2.2.2.2.2.2.2.2.2) 3).bind fun t16 =>
f_X6_readOrder_j157 t3 (t16.1, t16.2))
def f_X6_readOrder_j41 (x : TX6s) (t1 : Int32) (w41 : Int32) : Option (TX6s) :=
(f_X6_wants x w41).bind fun t3 =>
if (4 * t3.2.2.2.2.2.2.2.2.2.1) < 0 ∨ 144 ≤ (4 * t3.2.2.2.2.2.2.2.2.2.1).toNatClampNeg then none else
if t1 = 110 then (
(f_X6_mile (t3.1, t3.2.1, t3.2.2.1, t3.2.2.2.1, t3.2.2.2.2.1, t3.2.2.2.2.2.1, t3.2.2.2.2.2.2.1, t3.2.2.2.2.2.2.2.1, (upd t3.2.2.2.2.2.2.2.2.1 (4 * t3.2.2.2.2.2.2.2.2.2.1).toNatClampNeg t1), t3.2.2.2.2.2.2.2.2.2.1, t3.2.2.2.2.2.2.2.2.2.2.1, t3.2.2.2.2.2.2.2.2.2.2.2)).bind fun t21 =>
if ((4 * t3.2.2.2.2.2.2.2.2.2.1) + 1) < 0 ∨ 144 ≤ ((4 * t3.2.2.2.2.2.2.2.2.2.1) + 1).toNatClampNeg then none else
(f_X6_mile (t21.2.1, t21.2.2.1, t21.2.2.2.1, t21.2.2.2.2.1, t21.2.2.2.2.2.1, t21.2.2.2.2.2.2.1, t21.2.2.2.2.2.2.2.1, t21.2.2.2.2.2.2.2.2.1, (upd t21.2.2.2.2.2.2.2.2.2.1 ((4 * t3.2.2.2.2.2.2.2.2.2.1) + 1).toNatClampNeg t21.1), t21.2.2.2.2.2.2.2.2.2.2.1, t21.2.2.2.2.2.2.2.2.2.2.2.1, t21.2.2.2.2.2.2.2.2.2.2.2.2)).bind fun t24 =>
if ((4 * t3.2.2.2.2.2.2.2.2.2.1) + 2) < 0 ∨ 144 ≤ ((4 * t3.2.2.2.2.2.2.2.2.2.1) + 2).toNatClampNeg then none else
f_X6_readOrder_j158 (t24.2.1, t24.2.2.1, t24.2.2.2.1, t24.2.2.2.2.1, t24.2.2.2.2.2.1, t24.2.2.2.2.2.2.1, t24.2.2.2.2.2.2.2.1, t24.2.2.2.2.2.2.2.2.1, (upd t24.2.2.2.2.2.2.2.2.2.1 ((4 * t3.2.2.2.2.2.2.2.2.2.1) + 2).toNatClampNeg t24.1), t24.2.2.2.2.2.2.2.2.2.2.1, t24.2.2.2.2.2.2.2.2.2.2.2.1, t24.2.2.2.2.2.2.2.2.2.2.2.2))
else (
if t1 = 100 then (
f_X6_readOrder_j158 (t3.1, t3.2.1, t3.2.2.1, t3.2.2.2.1, t3.2.2.2.2.1, t3.2.2.2.2.2.1, t3.2.2.2.2.2.2.1, t3.2.2.2.2.2.2.2.1, (upd t3.2.2.2.2.2.2.2.2.1 (4 * t3.2.2.2.2.2.2.2.2.2.1).toNatClampNeg t1), t3.2.2.2.2.2.2.2.2.2.1, t3.2.2.2.2.2.2.2.2.2.2.1, t3.2.2.2.2.2.2.2.2.2.2.2))
else (
if t1 = 108 then (
f_X6_readOrder_j116 t1 t3 1)
else (
f_X6_readOrder_j116 t1 t3 2)))
def f_X6_readOrder_j36 (x : TX6s) (t1 : Int32) (w36 : Unit) : Option (TX6s) :=
f_X6_readOrder_j41 x t1 1
def f_X6_readOrder (x : TX6s) : Option (TX6s) :=
(f_X6_letter x).bind fun t1 =>
if t1 = 97 then (
f_X6_readOrder_j36 x t1 ())
else (
if t1 = 119 then (
f_X6_readOrder_j36 x t1 ())
else (
if t1 = 108 then (
f_X6_readOrder_j36 x t1 ())
else (
if t1 = 110 then (
f_X6_readOrder_j36 x t1 ())
else (
if t1 = 100 then (
f_X6_readOrder_j36 x t1 ())
else (
f_X6_readOrder_j41 x t1 0)))))
def f_X6_errorPosition_j71 (k18 : (Int32 × TX6s) → Option (Int32 × TX6s)) (t2 : TX6s) (w71 : Int32) : Option (Int32 × TX6s) :=
(f_X6_wants t2 w71).bind fun t7 =>
if t7.2.2.2.2.2.2.2.2.2.2.2 = (-6) then (
k18 (1, t7))
else (
k18 (0, t7))
def f_X6_errorPosition_j51 (k18 : (Int32 × TX6s) → Option (Int32 × TX6s)) (t2 : TX6s) (w51 : Int32) : Option (Int32 × TX6s) :=
if w51 = 0 then (
k18 (w51, t2))
else (
(f_X6_letter t2).bind fun t5 =>
if t5 = 59 then (
f_X6_errorPosition_j71 k18 t2 1)
else (
f_X6_errorPosition_j71 k18 t2 0))
def f_X6_errorPosition_j50 (k18 : (Int32 × TX6s) → Option (Int32 × TX6s)) (t2 : TX6s) (w50 : Unit) : Option (Int32 × TX6s) :=
f_X6_errorPosition_j51 k18 t2 0
def f_X6_errorPosition_l18 (k18 : (Int32 × TX6s) → Option (Int32 × TX6s)) (v18 : Int32 × TX6s) : Option (Int32 × TX6s) :=
if v18.1 = 0 then (
some (v18.2.2.2.2.2.2.2.2.2.2.2.2, v18.2))
else (
(f_X6_readOrder v18.2).bind fun t2 =>
if t2.2.2.2.2.2.2.2.2.2.2.2 = (-6) then (
if t2.2.2.2.2.2.2.1 ≤ t2.2.2.2.2.2.2.2.2.2.2.1 then (
f_X6_errorPosition_j50 k18 t2 ())
else (
f_X6_errorPosition_j51 k18 t2 1))
else (
f_X6_errorPosition_j50 k18 t2 ()))
def f_X6_errorPosition (x : TX6s) : Option (Int32 × TX6s) :=
lpN f_X6_errorPosition_l18 3000 (1, (x.1, x.2.1, x.2.2.1, x.2.2.2.1, x.2.2.2.2.1, x.2.2.2.2.2.1, x.2.2.2.2.2.2.1, x.2.2.2.2.2.2.2.1, x.2.2.2.2.2.2.2.2.1, 0, 0, (-6)))
def f_X6_carryOutOne (x : TX6s) (p1 : Int32) : Option (Int32 × TX6s) :=
if (p1 + 1) < 0 ∨ 144 ≤ (p1 + 1).toNatClampNeg then none else
if (p1 + 2) < 0 ∨ 144 ≤ (p1 + 2).toNatClampNeg then none else
if (p1 + 3) < 0 ∨ 144 ≤ (p1 + 3).toNatClampNeg then none else
if p1 < 0 ∨ 144 ≤ (p1).toNatClampNeg then none else
if (x.2.2.2.2.2.2.2.2.1 (p1).toNatClampNeg) = 97 then (
(f_X6_whyNotArrow x (x.2.2.2.2.2.2.2.2.1 (p1 + 1).toNatClampNeg) (x.2.2.2.2.2.2.2.2.1 (p1 + 2).toNatClampNeg) (x.2.2.2.2.2.2.2.2.1 (p1 + 3).toNatClampNeg)).bind fun t6 =>
if t6 = 0 then (
(f_X6_cellAt (x.2.2.2.2.2.2.2.2.1 (p1 + 1).toNatClampNeg) (x.2.2.2.2.2.2.2.2.1 (p1 + 2).toNatClampNeg)).bind fun t9 =>
(f_X6_signs x t9 ((x.2.2.2.2.2.2.2.2.1 (p1 + 3).toNatClampNeg) + 1)).bind fun t11 =>
some (t6, t11.2))
else (
some (t6, x)))
else if (x.2.2.2.2.2.2.2.2.1 (p1).toNatClampNeg) = 108 then (
(f_X6_lineAt (x.2.2.2.2.2.2.2.2.1 (p1 + 1).toNatClampNeg) (x.2.2.2.2.2.2.2.2.1 (p1 + 2).toNatClampNeg)).bind fun t14 =>
(f_X6_signs x t14 (x.2.2.2.2.2.2.2.2.1 (p1 + 3).toNatClampNeg)).bind fun t16 =>
some (0, t16.2))
else if (x.2.2.2.2.2.2.2.2.1 (p1).toNatClampNeg) = 110 then (
(f_X6_whyNotNight x (x.2.2.2.2.2.2.2.2.1 (p1 + 1).toNatClampNeg) (x.2.2.2.2.2.2.2.2.1 (p1 + 2).toNatClampNeg)).bind fun t19 =>
if t19 = 0 then (
(f_X6_works x (x.2.2.2.2.2.2.2.2.1 (p1 + 1).toNatClampNeg) (x.2.2.2.2.2.2.2.2.1 (p1 + 2).toNatClampNeg)).bind fun t22 =>
some (t19, t22.2))
else (
some (t19, x)))
else if (x.2.2.2.2.2.2.2.2.1 (p1).toNatClampNeg) = 119 then (
(f_X6_cellAt (x.2.2.2.2.2.2.2.2.1 (p1 + 1).toNatClampNeg) (x.2.2.2.2.2.2.2.2.1 (p1 + 2).toNatClampNeg)).bind fun t25 =>
(f_X6_signs x (t25 + 2) ((x.2.2.2.2.2.2.2.2.1 (p1 + 3).toNatClampNeg) + 1)).bind fun t27 =>
some (0, t27.2))
else (
(f_X6_day x).bind fun t29 =>
some (0, t29.2))
def f_X6_carryOut_l18 (k18 : (Int32 × TX6s) → Option (Int32 × TX6s)) (v18 : Int32 × TX6s) : Option (Int32 × TX6s) :=
if v18.2.2.2.2.2.2.2.2.2.2.1 ≤ v18.1 then (
some (v18.1, (v18.2.1, v18.2.2.1, v18.2.2.2.1, v18.2.2.2.2.1, v18.2.2.2.2.2.1, v18.2.2.2.2.2.2.1, 0, v18.2.2.2.2.2.2.2.2.1, v18.2.2.2.2.2.2.2.2.2.1, v18.2.2.2.2.2.2.2.2.2.2.1, v18.2.2.2.2.2.2.2.2.2.2.2.1, v18.2.2.2.2.2.2.2.2.2.2.2.2)))
else (
(f_X6_carryOutOne v18.2 (4 * v18.1)).bind fun t7 =>
if t7.1 = 0 then (
k18 ((v18.1 + 1), t7.2))
else (
some (v18.1, (t7.2.1, t7.2.2.1, t7.2.2.2.1, t7.2.2.2.2.1, t7.2.2.2.2.2.1, t7.2.2.2.2.2.2.1, 0, t7.2.2.2.2.2.2.2.2.1, t7.2.2.2.2.2.2.2.2.2.1, t7.2.2.2.2.2.2.2.2.2.2.1, t7.2.2.2.2.2.2.2.2.2.2.2.1, t7.2.2.2.2.2.2.2.2.2.2.2.2))))
def f_X6_carryOut (x : TX6s) : Option (Int32 × TX6s) :=
(f_X6_errorPosition x).bind fun t1 =>
if t1.1 = (-6) then (
(f_X6_record t1.2).bind fun t4 =>
lpN f_X6_carryOut_l18 3000 (0, t4))
else (
some ((-5), t1.2))
