theorem pm_40 : ([0] ++ [1] : List Nat).Perm (List.range 2) := by decide
theorem pm_41 : ([1] ++ [0] : List Nat).Perm (List.range 2) := by decide
def f_L_law_l18 (L : Nat) (xs : Nat → Int32) (k18 : (Int32 × TX5s × TX6s) → Option (Int32)) (v18 : Int32 × TX5s × TX6s) : Option (Int32) :=
if ((Int32.ofNat L) - 5) < v18.1 then (
some 1)
else (
if v18.1 < 0 ∨ L ≤ (v18.1).toNatClampNeg then none else
if ((xs (v18.1).toNatClampNeg) &&& 31) < 0 then (
k18 ((v18.1 + 5), v18.2.1, v18.2.2))
else if 23 < ((xs (v18.1).toNatClampNeg) &&& 31) then (
k18 ((v18.1 + 5), v18.2.1, v18.2.2))
else if ((xs (v18.1).toNatClampNeg) &&& 31) = 0 then (
if (v18.1 + 1) < 0 ∨ L ≤ (v18.1 + 1).toNatClampNeg then none else
if (v18.1 + 2) < 0 ∨ L ≤ (v18.1 + 2).toNatClampNeg then none else
if (v18.1 + 3) < 0 ∨ L ≤ (v18.1 + 3).toNatClampNeg then none else
(f_X5_arrow v18.2.1 (xs (v18.1 + 1).toNatClampNeg) (xs (v18.1 + 2).toNatClampNeg) (xs (v18.1 + 3).toNatClampNeg)).bind fun t9 =>
if (v18.1 + 1) < 0 ∨ L ≤ (v18.1 + 1).toNatClampNeg then none else
if (v18.1 + 2) < 0 ∨ L ≤ (v18.1 + 2).toNatClampNeg then none else
if (v18.1 + 3) < 0 ∨ L ≤ (v18.1 + 3).toNatClampNeg then none else
(f_X6_arrow v18.2.2 (xs (v18.1 + 1).toNatClampNeg) (xs (v18.1 + 2).toNatClampNeg) (xs (v18.1 + 3).toNatClampNeg)).bind fun t14 =>
if t9.1 = t14.1 then (
k18 ((v18.1 + 5), t9.2, t14.2))
else (
some 0))
else if ((xs (v18.1).toNatClampNeg) &&& 31) = 1 then (
if (v18.1 + 1) < 0 ∨ L ≤ (v18.1 + 1).toNatClampNeg then none else
if (v18.1 + 2) < 0 ∨ L ≤ (v18.1 + 2).toNatClampNeg then none else
if (v18.1 + 3) < 0 ∨ L ≤ (v18.1 + 3).toNatClampNeg then none else
(f_X5_word v18.2.1 (xs (v18.1 + 1).toNatClampNeg) (xs (v18.1 + 2).toNatClampNeg) (xs (v18.1 + 3).toNatClampNeg)).bind fun t21 =>
if (v18.1 + 1) < 0 ∨ L ≤ (v18.1 + 1).toNatClampNeg then none else
if (v18.1 + 2) < 0 ∨ L ≤ (v18.1 + 2).toNatClampNeg then none else
if (v18.1 + 3) < 0 ∨ L ≤ (v18.1 + 3).toNatClampNeg then none else
(f_X6_word v18.2.2 (xs (v18.1 + 1).toNatClampNeg) (xs (v18.1 + 2).toNatClampNeg) (xs (v18.1 + 3).toNatClampNeg)).bind fun t26 =>
if t21.1 = t26.1 then (
k18 ((v18.1 + 5), t21.2, t26.2))
else (
some 0))
else if ((xs (v18.1).toNatClampNeg) &&& 31) = 2 then (
if (v18.1 + 1) < 0 ∨ L ≤ (v18.1 + 1).toNatClampNeg then none else
if (v18.1 + 2) < 0 ∨ L ≤ (v18.1 + 2).toNatClampNeg then none else
if (v18.1 + 3) < 0 ∨ L ≤ (v18.1 + 3).toNatClampNeg then none else
(f_X5_dash v18.2.1 (xs (v18.1 + 1).toNatClampNeg) (xs (v18.1 + 2).toNatClampNeg) (xs (v18.1 + 3).toNatClampNeg)).bind fun t33 =>
if (v18.1 + 1) < 0 ∨ L ≤ (v18.1 + 1).toNatClampNeg then none else
if (v18.1 + 2) < 0 ∨ L ≤ (v18.1 + 2).toNatClampNeg then none else
if (v18.1 + 3) < 0 ∨ L ≤ (v18.1 + 3).toNatClampNeg then none else
(f_X6_dash v18.2.2 (xs (v18.1 + 1).toNatClampNeg) (xs (v18.1 + 2).toNatClampNeg) (xs (v18.1 + 3).toNatClampNeg)).bind fun t38 =>
if t33.1 = t38.1 then (
k18 ((v18.1 + 5), t33.2, t38.2))
else (
some 0))
else if ((xs (v18.1).toNatClampNeg) &&& 31) = 3 then (
if (v18.1 + 1) < 0 ∨ L ≤ (v18.1 + 1).toNatClampNeg then none else
if (v18.1 + 2) < 0 ∨ L ≤ (v18.1 + 2).toNatClampNeg then none else
(f_X5_erase v18.2.1 (xs (v18.1 + 1).toNatClampNeg) (xs (v18.1 + 2).toNatClampNeg)).bind fun t44 =>
if (v18.1 + 1) < 0 ∨ L ≤ (v18.1 + 1).toNatClampNeg then none else
if (v18.1 + 2) < 0 ∨ L ≤ (v18.1 + 2).toNatClampNeg then none else
(f_X6_erase v18.2.2 (xs (v18.1 + 1).toNatClampNeg) (xs (v18.1 + 2).toNatClampNeg)).bind fun t48 =>
if t44.1 = t48.1 then (
k18 ((v18.1 + 5), t44.2, t48.2))
else (
some 0))
else if ((xs (v18.1).toNatClampNeg) &&& 31) = 4 then (
if (v18.1 + 1) < 0 ∨ L ≤ (v18.1 + 1).toNatClampNeg then none else
if (v18.1 + 2) < 0 ∨ L ≤ (v18.1 + 2).toNatClampNeg then none else
(f_X5_set v18.2.1 (xs (v18.1 + 1).toNatClampNeg) (xs (v18.1 + 2).toNatClampNeg)).bind fun t54 =>
if (v18.1 + 1) < 0 ∨ L ≤ (v18.1 + 1).toNatClampNeg then none else
if (v18.1 + 2) < 0 ∨ L ≤ (v18.1 + 2).toNatClampNeg then none else
(f_X6_set v18.2.2 (xs (v18.1 + 1).toNatClampNeg) (xs (v18.1 + 2).toNatClampNeg)).bind fun t58 =>
if t54.1 = t58.1 then (
k18 ((v18.1 + 5), t54.2, t58.2))
else (
some 0))
else if ((xs (v18.1).toNatClampNeg) &&& 31) = 5 then (
if (v18.1 + 1) < 0 ∨ L ≤ (v18.1 + 1).toNatClampNeg then none else
if (v18.1 + 2) < 0 ∨ L ≤ (v18.1 + 2).toNatClampNeg then none else
(f_X5_traffic v18.2.1 (xs (v18.1 + 1).toNatClampNeg) (xs (v18.1 + 2).toNatClampNeg)).bind fun t64 =>
if (v18.1 + 1) < 0 ∨ L ≤ (v18.1 + 1).toNatClampNeg then none else
if (v18.1 + 2) < 0 ∨ L ≤ (v18.1 + 2).toNatClampNeg then none else
(f_X6_traffic v18.2.2 (xs (v18.1 + 1).toNatClampNeg) (xs (v18.1 + 2).toNatClampNeg)).bind fun t68 =>
if t64.1 = t68.1 then (
k18 ((v18.1 + 5), t64.2, t68.2))
else (
some 0))
else if ((xs (v18.1).toNatClampNeg) &&& 31) = 6 then (
if (v18.1 + 1) < 0 ∨ L ≤ (v18.1 + 1).toNatClampNeg then none else
(f_X5_bring v18.2.1 (xs (v18.1 + 1).toNatClampNeg)).bind fun t73 =>
if (v18.1 + 1) < 0 ∨ L ≤ (v18.1 + 1).toNatClampNeg then none else
(f_X6_bring v18.2.2 (xs (v18.1 + 1).toNatClampNeg)).bind fun t76 =>
if t73.1 = t76.1 then (
k18 ((v18.1 + 5), t73.2, t76.2))
else (
some 0))
else if ((xs (v18.1).toNatClampNeg) &&& 31) = 7 then (
if (v18.1 + 1) < 0 ∨ L ≤ (v18.1 + 1).toNatClampNeg then none else
(f_X5_pass v18.2.1 (xs (v18.1 + 1).toNatClampNeg)).bind fun t81 =>
if (v18.1 + 1) < 0 ∨ L ≤ (v18.1 + 1).toNatClampNeg then none else
(f_X6_pass v18.2.2 (xs (v18.1 + 1).toNatClampNeg)).bind fun t84 =>
if t81.1 = t84.1 then (
k18 ((v18.1 + 5), t81.2, t84.2))
else (
some 0))
else if ((xs (v18.1).toNatClampNeg) &&& 31) = 8 then (
if (v18.1 + 1) < 0 ∨ L ≤ (v18.1 + 1).toNatClampNeg then none else
if (v18.1 + 2) < 0 ∨ L ≤ (v18.1 + 2).toNatClampNeg then none else
(f_X5_night v18.2.1 (xs (v18.1 + 1).toNatClampNeg) (xs (v18.1 + 2).toNatClampNeg)).bind fun t90 =>
if (v18.1 + 1) < 0 ∨ L ≤ (v18.1 + 1).toNatClampNeg then none else
if (v18.1 + 2) < 0 ∨ L ≤ (v18.1 + 2).toNatClampNeg then none else
(f_X6_night v18.2.2 (xs (v18.1 + 1).toNatClampNeg) (xs (v18.1 + 2).toNatClampNeg)).bind fun t94 =>
if t90.1 = t94.1 then (
k18 ((v18.1 + 5), t90.2, t94.2))
else (
some 0))
else if ((xs (v18.1).toNatClampNeg) &&& 31) = 9 then (
if (v18.1 + 1) < 0 ∨ L ≤ (v18.1 + 1).toNatClampNeg then none else
if (v18.1 + 2) < 0 ∨ L ≤ (v18.1 + 2).toNatClampNeg then none else
if (v18.1 + 3) < 0 ∨ L ≤ (v18.1 + 3).toNatClampNeg then none else
(f_X5_cell v18.2.1 (xs (v18.1 + 1).toNatClampNeg) (xs (v18.1 + 2).toNatClampNeg) (xs (v18.1 + 3).toNatClampNeg)).bind fun t101 =>
if (v18.1 + 1) < 0 ∨ L ≤ (v18.1 + 1).toNatClampNeg then none else
if (v18.1 + 2) < 0 ∨ L ≤ (v18.1 + 2).toNatClampNeg then none else
if (v18.1 + 3) < 0 ∨ L ≤ (v18.1 + 3).toNatClampNeg then none else
(f_X6_cell v18.2.2 (xs (v18.1 + 1).toNatClampNeg) (xs (v18.1 + 2).toNatClampNeg) (xs (v18.1 + 3).toNatClampNeg)).bind fun t106 =>
if t101 = t106 then (
k18 ((v18.1 + 5), v18.2.1, v18.2.2))
else (
some 0))
else if ((xs (v18.1).toNatClampNeg) &&& 31) = 10 then (
if (v18.1 + 1) < 0 ∨ L ≤ (v18.1 + 1).toNatClampNeg then none else
if (v18.1 + 2) < 0 ∨ L ≤ (v18.1 + 2).toNatClampNeg then none else
if (v18.1 + 3) < 0 ∨ L ≤ (v18.1 + 3).toNatClampNeg then none else
(f_X5_line v18.2.1 (xs (v18.1 + 1).toNatClampNeg) (xs (v18.1 + 2).toNatClampNeg) (xs (v18.1 + 3).toNatClampNeg)).bind fun t113 =>
if (v18.1 + 1) < 0 ∨ L ≤ (v18.1 + 1).toNatClampNeg then none else
if (v18.1 + 2) < 0 ∨ L ≤ (v18.1 + 2).toNatClampNeg then none else
if (v18.1 + 3) < 0 ∨ L ≤ (v18.1 + 3).toNatClampNeg then none else
(f_X6_line v18.2.2 (xs (v18.1 + 1).toNatClampNeg) (xs (v18.1 + 2).toNatClampNeg) (xs (v18.1 + 3).toNatClampNeg)).bind fun t118 =>
if t113 = t118 then (
k18 ((v18.1 + 5), v18.2.1, v18.2.2))
else (
some 0))
else if ((xs (v18.1).toNatClampNeg) &&& 31) = 11 then (
if (v18.1 + 1) < 0 ∨ L ≤ (v18.1 + 1).toNatClampNeg then none else
if (v18.1 + 2) < 0 ∨ L ≤ (v18.1 + 2).toNatClampNeg then none else
if (v18.1 + 3) < 0 ∨ L ≤ (v18.1 + 3).toNatClampNeg then none else
if (v18.1 + 4) < 0 ∨ L ≤ (v18.1 + 4).toNatClampNeg then none else
(f_X5_mayChange v18.2.1 (xs (v18.1 + 1).toNatClampNeg) (xs (v18.1 + 2).toNatClampNeg) (xs (v18.1 + 3).toNatClampNeg) (xs (v18.1 + 4).toNatClampNeg)).bind fun t126 =>
if (v18.1 + 1) < 0 ∨ L ≤ (v18.1 + 1).toNatClampNeg then none else
if (v18.1 + 2) < 0 ∨ L ≤ (v18.1 + 2).toNatClampNeg then none else
if (v18.1 + 3) < 0 ∨ L ≤ (v18.1 + 3).toNatClampNeg then none else
if (v18.1 + 4) < 0 ∨ L ≤ (v18.1 + 4).toNatClampNeg then none else
(f_X6_mayChange v18.2.2 (xs (v18.1 + 1).toNatClampNeg) (xs (v18.1 + 2).toNatClampNeg) (xs (v18.1 + 3).toNatClampNeg) (xs (v18.1 + 4).toNatClampNeg)).bind fun t132 =>
if t126 = t132 then (
k18 ((v18.1 + 5), v18.2.1, v18.2.2))
else (
some 0))
else if ((xs (v18.1).toNatClampNeg) &&& 31) = 12 then (
if (v18.1 + 1) < 0 ∨ L ≤ (v18.1 + 1).toNatClampNeg then none else
(f_X5_total v18.2.1 (xs (v18.1 + 1).toNatClampNeg)).bind fun t137 =>
if (v18.1 + 1) < 0 ∨ L ≤ (v18.1 + 1).toNatClampNeg then none else
(f_X6_total v18.2.2 (xs (v18.1 + 1).toNatClampNeg)).bind fun t140 =>
if t137 = t140 then (
k18 ((v18.1 + 5), v18.2.1, v18.2.2))
else (
some 0))
else if ((xs (v18.1).toNatClampNeg) &&& 31) = 13 then (
if (v18.1 + 1) < 0 ∨ L ≤ (v18.1 + 1).toNatClampNeg then none else
if (v18.1 + 2) < 0 ∨ L ≤ (v18.1 + 2).toNatClampNeg then none else
if (v18.1 + 3) < 0 ∨ L ≤ (v18.1 + 3).toNatClampNeg then none else
(f_X5_whyNot v18.2.1 (xs (v18.1 + 1).toNatClampNeg) (xs (v18.1 + 2).toNatClampNeg) (xs (v18.1 + 3).toNatClampNeg)).bind fun t147 =>
if (v18.1 + 1) < 0 ∨ L ≤ (v18.1 + 1).toNatClampNeg then none else
if (v18.1 + 2) < 0 ∨ L ≤ (v18.1 + 2).toNatClampNeg then none else
if (v18.1 + 3) < 0 ∨ L ≤ (v18.1 + 3).toNatClampNeg then none else
(f_X6_whyNot v18.2.2 (xs (v18.1 + 1).toNatClampNeg) (xs (v18.1 + 2).toNatClampNeg) (xs (v18.1 + 3).toNatClampNeg)).bind fun t152 =>
if t147 = t152 then (
k18 ((v18.1 + 5), v18.2.1, v18.2.2))
else (
some 0))
else if ((xs (v18.1).toNatClampNeg) &&& 31) = 14 then (
if (v18.1 + 1) < 0 ∨ L ≤ (v18.1 + 1).toNatClampNeg then none else
if (v18.1 + 2) < 0 ∨ L ≤ (v18.1 + 2).toNatClampNeg then none else
(f_X5_readableFor v18.2.1 (xs (v18.1 + 1).toNatClampNeg) (xs (v18.1 + 2).toNatClampNeg)).bind fun t158 =>
if (v18.1 + 1) < 0 ∨ L ≤ (v18.1 + 1).toNatClampNeg then none else
if (v18.1 + 2) < 0 ∨ L ≤ (v18.1 + 2).toNatClampNeg then none else
(f_X6_readableFor v18.2.2 (xs (v18.1 + 1).toNatClampNeg) (xs (v18.1 + 2).toNatClampNeg)).bind fun t162 =>
if t158 = t162 then (
k18 ((v18.1 + 5), v18.2.1, v18.2.2))
else (
some 0))
else if ((xs (v18.1).toNatClampNeg) &&& 31) = 15 then (
(f_X5_bestNight v18.2.1).bind fun t166 =>
(f_X6_bestNight v18.2.2).bind fun t168 =>
if t166 = t168 then (
k18 ((v18.1 + 5), v18.2.1, v18.2.2))
else (
some 0))
else if ((xs (v18.1).toNatClampNeg) &&& 31) = 16 then (
if (v18.1 + 1) < 0 ∨ L ≤ (v18.1 + 1).toNatClampNeg then none else
if (v18.1 + 2) < 0 ∨ L ≤ (v18.1 + 2).toNatClampNeg then none else
(f_X5_fewestChanges v18.2.1 (xs (v18.1 + 1).toNatClampNeg) (xs (v18.1 + 2).toNatClampNeg)).bind fun t174 =>
if (v18.1 + 1) < 0 ∨ L ≤ (v18.1 + 1).toNatClampNeg then none else
if (v18.1 + 2) < 0 ∨ L ≤ (v18.1 + 2).toNatClampNeg then none else
(f_X6_fewestChanges v18.2.2 (xs (v18.1 + 1).toNatClampNeg) (xs (v18.1 + 2).toNatClampNeg)).bind fun t178 =>
if t174.1 = t178.1 then (
k18 ((v18.1 + 5), t174.2, t178.2))
else (
some 0))
else if ((xs (v18.1).toNatClampNeg) &&& 31) = 17 then (
if (v18.1 + 1) < 0 ∨ L ≤ (v18.1 + 1).toNatClampNeg then none else
(f_X5_append v18.2.1 (xs (v18.1 + 1).toNatClampNeg)).bind fun t183 =>
if (v18.1 + 1) < 0 ∨ L ≤ (v18.1 + 1).toNatClampNeg then none else
(f_X6_append v18.2.2 (xs (v18.1 + 1).toNatClampNeg)).bind fun t186 =>
if t183.1 = t186.1 then (
k18 ((v18.1 + 5), t183.2, t186.2))
else (
some 0))
else if ((xs (v18.1).toNatClampNeg) &&& 31) = 18 then (
(f_X5_clearText v18.2.1).bind fun t190 =>
(f_X6_clearText v18.2.2).bind fun t192 =>
if t190.1 = t192.1 then (
k18 ((v18.1 + 5), t190.2, t192.2))
else (
some 0))
else if ((xs (v18.1).toNatClampNeg) &&& 31) = 19 then (
(f_X5_errorPosition v18.2.1).bind fun t196 =>
(f_X6_errorPosition v18.2.2).bind fun t198 =>
if t196 = t198.1 then (
k18 ((v18.1 + 5), v18.2.1, t198.2))
else (
some 0))
else if ((xs (v18.1).toNatClampNeg) &&& 31) = 20 then (
(f_X5_carryOut v18.2.1).bind fun t202 =>
(f_X6_carryOut v18.2.2).bind fun t204 =>
if t202.1 = t204.1 then (
k18 ((v18.1 + 5), t202.2, t204.2))
else (
some 0))
else if ((xs (v18.1).toNatClampNeg) &&& 31) = 21 then (
(f_X5_undo v18.2.1).bind fun t208 =>
(f_X6_undo v18.2.2).bind fun t210 =>
if t208.1 = t210.1 then (
k18 ((v18.1 + 5), t208.2, t210.2))
else (
some 0))
else if ((xs (v18.1).toNatClampNeg) &&& 31) = 22 then (
(f_X5_save v18.2.1).bind fun t214 =>
(f_X6_save v18.2.2).bind fun t216 =>
if t214.1 = t216.1 then (
k18 ((v18.1 + 5), t214.2, t216.2))
else (
some 0))
else if ((xs (v18.1).toNatClampNeg) &&& 31) = 23 then (
(f_X5_restore v18.2.1).bind fun t220 =>
(f_X6_restore v18.2.2).bind fun t222 =>
if t220.1 = t222.1 then (
k18 ((v18.1 + 5), t220.2, t222.2))
else (
some 0))
else none)
def f_L_law (L : Nat) (xs : Nat → Int32) (x : TX5s) (y : TX6s) : Option Int32 :=
lpN (f_L_law_l18 L xs) 3000 (0, x, y)
set_option maxHeartbeats 40000000 in
set_option maxRecDepth 100000 in
theorem law_walk {p : Program} {l : Launch} {e : Env} {R : Room} {s : State} {m : MethodId} {args : Array Value} {below : List Frame} {meth : Method} {c : Code} {kc ks : Nat} {Q : State → Prop} {Z : Nat → Prop} (g : GG) (b L : Nat) (xs : Nat → Int32) (C : CxG p s m args c code 4 RL wsL_law g Z) (hX : va_X b L xs s s.heap) (hbl : b < s.heap.size) (hbZ : ¬ Z b) (hR : R.frames = 13 ∧ R.locals = 500) (hcs : kc ≤ R.cells ∧ ks ≤ R.slots) (A A2 : Nat → Nat) (x : TX5s) (y : TX6s) (E : ∀ (H : Heap) (locs : List Loc) (ls : Array Slot) (pc : Nat) (bs : List va_W), WdG g Z s.heap H locs bs → decode code pc = .ok (.ireturn, 1) → W p l e R s m args below meth c H locs kc ks Q (F0 m pc ls [.int 1])) (h : f_L_law L xs x y = some 1) (H : Heap) (locs : List Loc) (hW : WdG g Z s.heap H locs [wX5 g A 0 x, wX6 g A2 0 y]) (ls : Array Slot) (hl : lv_has ls 4 [(0, .ref b), (1, .ref (A 0)), (2, .ref (A2 0)), (3, .int 0)]) : W p l e R s m args below meth c H locs kc ks Q (F0 m 18 ls []) := by
  have hx := C.1.1
  have hb := C.1.2.1
  have hown := C.1.2.2.2.1
  unfold f_L_law at h
  have L18 : ∀ n18 : Nat, ∀ (v18 : Int32 × TX5s × TX6s), lpN (f_L_law_l18 L xs) n18 v18 = some (1 : Int32) → ∀ (H : Heap) (locs : List Loc), WdG g Z s.heap H locs [wX5 g A 0 v18.2.1, wX6 g A2 0 v18.2.2] → ∀ ls : Array Slot, lv_has ls 4 [(0, .ref b), (1, .ref (A 0)), (2, .ref (A2 0)), (3, .int v18.1)] → W p l e R s m args below meth c H locs kc ks Q (F0 m 18 ls []) := by
    intro n18
    induction n18 with
    | zero => intro v18 h; exact absurd (show none = some (1 : Int32) from h) (fun h => by cases h)
    | succ n18 ih18 =>
      intro v18 h H locs hW ls hl
      replace h : f_L_law_l18 L xs (lpN (f_L_law_l18 L xs) n18) v18 = some (1 : Int32) := h
      unfold f_L_law_l18 at h
      refine lv_iload_n hx hb dL_law_18 rfl (lv_at hl 3 rfl) ?_
      refine lv_aload_n hx hb dL_law_19 rfl (lv_at hl 0 rfl) ?_
      refine va_slen hx hb hX hbl hbZ hW.2.2 dL_law_20 ?_
      refine lv_iconst (v := 5) hx hb dL_law_21 (by decide) ?_
      refine lv_isub hx hb dL_law_22 ?_
      refine lv_icmp_gt (tgt := 842) hx hb dL_law_23 (by decide) (fun e1 => ?_) (fun e1 => ?_)
      · replace h := q_t e1 h
        refine lv_iconst (v := 1) hx hb dL_law_842 (by decide) ?_
        exact E _ _ _ _ _ hW dL_law_843
      · replace h := q_f e1 h
        refine lv_aload_n hx hb dL_law_26 rfl (lv_at hl 0 rfl) ?_
        refine lv_iload_n hx hb dL_law_27 rfl (lv_at hl 3 rfl) ?_
        obtain ⟨g2, h⟩ := q_g h
        refine va_sld hx hb hX hbl hbZ hW.2.2 g2 dL_law_28 ?_
        refine lv_bipush (v := 31) hx hb dL_law_29 (by decide) ?_
        refine lv_iand hx hb dL_law_31 ?_
        by_cases e3 : ((xs (v18.1).toNatClampNeg) &&& 31) < 0
        · replace h := q_t e3 h
          refine lv_tableOut (tgt := 836) hx hb dL_law_32 (tb_lo e3 rfl) (by decide) ?_
          refine lv_iinc (v := (v18.1 + 5)) (lv' := [(3, .int (v18.1 + 5)), (0, .ref b), (1, .ref (A 0)), (2, .ref (A2 0))]) hx hb dL_law_836 hl (k := 3) rfl rfl (by decide) rfl (fun ls hl => ?_)
          refine lv_goto (tgt := 18) hx hb dL_law_839 (by decide) ?_
          exact ih18 ((v18.1 + 5), v18.2.1, v18.2.2) h _ _ hW _ (lv_sub hl [1, 2, 3, 0] rfl)
        · replace h := q_f e3 h
          by_cases e4 : 23 < ((xs (v18.1).toNatClampNeg) &&& 31)
          · replace h := q_t e4 h
            refine lv_tableOut (tgt := 836) hx hb dL_law_32 (tb_hi e4 rfl) (by decide) ?_
            refine lv_iinc (v := (v18.1 + 5)) (lv' := [(3, .int (v18.1 + 5)), (0, .ref b), (1, .ref (A 0)), (2, .ref (A2 0))]) hx hb dL_law_836 hl (k := 3) rfl rfl (by decide) rfl (fun ls hl => ?_)
            refine lv_goto (tgt := 18) hx hb dL_law_839 (by decide) ?_
            exact ih18 ((v18.1 + 5), v18.2.1, v18.2.2) h _ _ hW _ (lv_sub hl [1, 2, 3, 0] rfl)
          · replace h := q_f e4 h
            by_cases e5 : ((xs (v18.1).toNatClampNeg) &&& 31) = 0
            · replace h := q_t e5 h
              have tb := tb_in e5 (lo := 0) (hi := 23) (offs := #[112, 155, 198, 241, 274, 307, 340, 363, 386, 419, 462, 505, 558, 581, 624, 657, 670, 703, 726, 739, 752, 765, 778, 791]) (off := 112) (by decide)
              refine lv_tableIn (tgt := 144) hx hb dL_law_32 tb.1 tb.2.1 tb.2.2 (by decide) ?_
              refine lv_aload_n hx hb dL_law_144 rfl (lv_at hl 1 rfl) ?_
              refine lv_aload_n hx hb dL_law_145 rfl (lv_at hl 0 rfl) ?_
              refine lv_iload_n hx hb dL_law_146 rfl (lv_at hl 3 rfl) ?_
              refine lv_iconst (v := 1) hx hb dL_law_147 (by decide) ?_
              refine lv_iadd hx hb dL_law_148 ?_
              obtain ⟨g6, h⟩ := q_g h
              refine va_sld hx hb hX hbl hbZ hW.2.2 g6 dL_law_149 ?_
              refine lv_aload_n hx hb dL_law_150 rfl (lv_at hl 0 rfl) ?_
              refine lv_iload_n hx hb dL_law_151 rfl (lv_at hl 3 rfl) ?_
              refine lv_iconst (v := 2) hx hb dL_law_152 (by decide) ?_
              refine lv_iadd hx hb dL_law_153 ?_
              obtain ⟨g7, h⟩ := q_g h
              refine va_sld hx hb hX hbl hbZ hW.2.2 g7 dL_law_154 ?_
              refine lv_aload_n hx hb dL_law_155 rfl (lv_at hl 0 rfl) ?_
              refine lv_iload_n hx hb dL_law_156 rfl (lv_at hl 3 rfl) ?_
              refine lv_iconst (v := 3) hx hb dL_law_157 (by decide) ?_
              refine lv_iadd hx hb dL_law_158 ?_
              obtain ⟨g8, h⟩ := q_g h
              refine va_sld hx hb hX hbl hbZ hW.2.2 g8 dL_law_159 ?_
              obtain ⟨t9, h10, h⟩ := q_b h
              refine r_cVi C hW (nA := 3) (As := [.int (xs (v18.1 + 1).toNatClampNeg), .int (xs (v18.1 + 2).toNatClampNeg), .int (xs (v18.1 + 3).toNatClampNeg)]) (rest := []) (c_X5_arrow l g A 0 v18.2.1 (xs (v18.1 + 1).toNatClampNeg) (xs (v18.1 + 2).toNatClampNeg) (xs (v18.1 + 3).toNatClampNeg) _ _ h10) gL_law_X5_arrow rfl ⟨rfl, wo_X5_arrow⟩ (rmk hR rfl rfl) rfl rfl rfl rfl hl.1 (Nat.le_of_ble_eq_true rfl) hcs dL_law_160 (n := 2) (is := [0]) (rs := [1]) (bs' := [wX5 g A 0 t9.2, wX6 g A2 0 v18.2.2]) rfl rfl pm_40 rfl rfl rfl (fun H locs hW => ?_)
              refine lv_aload_n hx hb dL_law_163 rfl (lv_at hl 2 rfl) ?_
              refine lv_aload_n hx hb dL_law_164 rfl (lv_at hl 0 rfl) ?_
              refine lv_iload_n hx hb dL_law_165 rfl (lv_at hl 3 rfl) ?_
              refine lv_iconst (v := 1) hx hb dL_law_166 (by decide) ?_
              refine lv_iadd hx hb dL_law_167 ?_
              obtain ⟨g11, h⟩ := q_g h
              refine va_sld hx hb hX hbl hbZ hW.2.2 g11 dL_law_168 ?_
              refine lv_aload_n hx hb dL_law_169 rfl (lv_at hl 0 rfl) ?_
              refine lv_iload_n hx hb dL_law_170 rfl (lv_at hl 3 rfl) ?_
              refine lv_iconst (v := 2) hx hb dL_law_171 (by decide) ?_
              refine lv_iadd hx hb dL_law_172 ?_
              obtain ⟨g12, h⟩ := q_g h
              refine va_sld hx hb hX hbl hbZ hW.2.2 g12 dL_law_173 ?_
              refine lv_aload_n hx hb dL_law_174 rfl (lv_at hl 0 rfl) ?_
              refine lv_iload_n hx hb dL_law_175 rfl (lv_at hl 3 rfl) ?_
              refine lv_iconst (v := 3) hx hb dL_law_176 (by decide) ?_
              refine lv_iadd hx hb dL_law_177 ?_
              obtain ⟨g13, h⟩ := q_g h
              refine va_sld hx hb hX hbl hbZ hW.2.2 g13 dL_law_178 ?_
              obtain ⟨t14, h15, h⟩ := q_b h
              refine r_cVi C hW (nA := 3) (As := [.int (xs (v18.1 + 1).toNatClampNeg), .int (xs (v18.1 + 2).toNatClampNeg), .int (xs (v18.1 + 3).toNatClampNeg)]) (rest := [.int t9.1]) (c_X6_arrow l g A2 0 v18.2.2 (xs (v18.1 + 1).toNatClampNeg) (xs (v18.1 + 2).toNatClampNeg) (xs (v18.1 + 3).toNatClampNeg) _ _ h15) gL_law_X6_arrow rfl ⟨rfl, wo_X6_arrow⟩ (rmk hR rfl rfl) rfl rfl rfl rfl hl.1 (Nat.le_of_ble_eq_true rfl) hcs dL_law_179 (n := 2) (is := [1]) (rs := [0]) (bs' := [wX5 g A 0 t9.2, wX6 g A2 0 t14.2]) rfl rfl pm_41 rfl rfl rfl (fun H locs hW => ?_)
              refine lv_icmp_eq (tgt := 836) hx hb dL_law_182 (by decide) (fun e16 => ?_) (fun e16 => ?_)
              · replace h := q_t e16 h
                refine lv_iinc (v := (v18.1 + 5)) (lv' := [(3, .int (v18.1 + 5)), (0, .ref b), (1, .ref (A 0)), (2, .ref (A2 0))]) hx hb dL_law_836 hl (k := 3) rfl rfl (by decide) rfl (fun ls hl => ?_)
                refine lv_goto (tgt := 18) hx hb dL_law_839 (by decide) ?_
                exact ih18 ((v18.1 + 5), t9.2, t14.2) h _ _ hW _ (lv_sub hl [1, 2, 3, 0] rfl)
              · replace h := q_f e16 h
                refine lv_iconst (v := 0) hx hb dL_law_185 (by decide) ?_
                exact absurd h (by decide)
            · replace h := q_f e5 h
              by_cases e17 : ((xs (v18.1).toNatClampNeg) &&& 31) = 1
              · replace h := q_t e17 h
                have tb := tb_in e17 (lo := 0) (hi := 23) (offs := #[112, 155, 198, 241, 274, 307, 340, 363, 386, 419, 462, 505, 558, 581, 624, 657, 670, 703, 726, 739, 752, 765, 778, 791]) (off := 155) (by decide)
                refine lv_tableIn (tgt := 187) hx hb dL_law_32 tb.1 tb.2.1 tb.2.2 (by decide) ?_
                refine lv_aload_n hx hb dL_law_187 rfl (lv_at hl 1 rfl) ?_
                refine lv_aload_n hx hb dL_law_188 rfl (lv_at hl 0 rfl) ?_
                refine lv_iload_n hx hb dL_law_189 rfl (lv_at hl 3 rfl) ?_
                refine lv_iconst (v := 1) hx hb dL_law_190 (by decide) ?_
                refine lv_iadd hx hb dL_law_191 ?_
                obtain ⟨g18, h⟩ := q_g h
                refine va_sld hx hb hX hbl hbZ hW.2.2 g18 dL_law_192 ?_
                refine lv_aload_n hx hb dL_law_193 rfl (lv_at hl 0 rfl) ?_
                refine lv_iload_n hx hb dL_law_194 rfl (lv_at hl 3 rfl) ?_
                refine lv_iconst (v := 2) hx hb dL_law_195 (by decide) ?_
                refine lv_iadd hx hb dL_law_196 ?_
                obtain ⟨g19, h⟩ := q_g h
                refine va_sld hx hb hX hbl hbZ hW.2.2 g19 dL_law_197 ?_
                refine lv_aload_n hx hb dL_law_198 rfl (lv_at hl 0 rfl) ?_
                refine lv_iload_n hx hb dL_law_199 rfl (lv_at hl 3 rfl) ?_
                refine lv_iconst (v := 3) hx hb dL_law_200 (by decide) ?_
                refine lv_iadd hx hb dL_law_201 ?_
                obtain ⟨g20, h⟩ := q_g h
                refine va_sld hx hb hX hbl hbZ hW.2.2 g20 dL_law_202 ?_
                obtain ⟨t21, h22, h⟩ := q_b h
                refine r_cVi C hW (nA := 3) (As := [.int (xs (v18.1 + 1).toNatClampNeg), .int (xs (v18.1 + 2).toNatClampNeg), .int (xs (v18.1 + 3).toNatClampNeg)]) (rest := []) (c_X5_word l g A 0 v18.2.1 (xs (v18.1 + 1).toNatClampNeg) (xs (v18.1 + 2).toNatClampNeg) (xs (v18.1 + 3).toNatClampNeg) _ _ h22) gL_law_X5_word rfl ⟨rfl, wo_X5_word⟩ (rmk hR rfl rfl) rfl rfl rfl rfl hl.1 (Nat.le_of_ble_eq_true rfl) hcs dL_law_203 (n := 2) (is := [0]) (rs := [1]) (bs' := [wX5 g A 0 t21.2, wX6 g A2 0 v18.2.2]) rfl rfl pm_40 rfl rfl rfl (fun H locs hW => ?_)
                refine lv_aload_n hx hb dL_law_206 rfl (lv_at hl 2 rfl) ?_
                refine lv_aload_n hx hb dL_law_207 rfl (lv_at hl 0 rfl) ?_
                refine lv_iload_n hx hb dL_law_208 rfl (lv_at hl 3 rfl) ?_
                refine lv_iconst (v := 1) hx hb dL_law_209 (by decide) ?_
                refine lv_iadd hx hb dL_law_210 ?_
                obtain ⟨g23, h⟩ := q_g h
                refine va_sld hx hb hX hbl hbZ hW.2.2 g23 dL_law_211 ?_
                refine lv_aload_n hx hb dL_law_212 rfl (lv_at hl 0 rfl) ?_
                refine lv_iload_n hx hb dL_law_213 rfl (lv_at hl 3 rfl) ?_
                refine lv_iconst (v := 2) hx hb dL_law_214 (by decide) ?_
                refine lv_iadd hx hb dL_law_215 ?_
                obtain ⟨g24, h⟩ := q_g h
                refine va_sld hx hb hX hbl hbZ hW.2.2 g24 dL_law_216 ?_
                refine lv_aload_n hx hb dL_law_217 rfl (lv_at hl 0 rfl) ?_
                refine lv_iload_n hx hb dL_law_218 rfl (lv_at hl 3 rfl) ?_
                refine lv_iconst (v := 3) hx hb dL_law_219 (by decide) ?_
                refine lv_iadd hx hb dL_law_220 ?_
                obtain ⟨g25, h⟩ := q_g h
                refine va_sld hx hb hX hbl hbZ hW.2.2 g25 dL_law_221 ?_
                obtain ⟨t26, h27, h⟩ := q_b h
                refine r_cVi C hW (nA := 3) (As := [.int (xs (v18.1 + 1).toNatClampNeg), .int (xs (v18.1 + 2).toNatClampNeg), .int (xs (v18.1 + 3).toNatClampNeg)]) (rest := [.int t21.1]) (c_X6_word l g A2 0 v18.2.2 (xs (v18.1 + 1).toNatClampNeg) (xs (v18.1 + 2).toNatClampNeg) (xs (v18.1 + 3).toNatClampNeg) _ _ h27) gL_law_X6_word rfl ⟨rfl, wo_X6_word⟩ (rmk hR rfl rfl) rfl rfl rfl rfl hl.1 (Nat.le_of_ble_eq_true rfl) hcs dL_law_222 (n := 2) (is := [1]) (rs := [0]) (bs' := [wX5 g A 0 t21.2, wX6 g A2 0 t26.2]) rfl rfl pm_41 rfl rfl rfl (fun H locs hW => ?_)
                refine lv_icmp_eq (tgt := 836) hx hb dL_law_225 (by decide) (fun e28 => ?_) (fun e28 => ?_)
                · replace h := q_t e28 h
                  refine lv_iinc (v := (v18.1 + 5)) (lv' := [(3, .int (v18.1 + 5)), (0, .ref b), (1, .ref (A 0)), (2, .ref (A2 0))]) hx hb dL_law_836 hl (k := 3) rfl rfl (by decide) rfl (fun ls hl => ?_)
                  refine lv_goto (tgt := 18) hx hb dL_law_839 (by decide) ?_
                  exact ih18 ((v18.1 + 5), t21.2, t26.2) h _ _ hW _ (lv_sub hl [1, 2, 3, 0] rfl)
                · replace h := q_f e28 h
                  refine lv_iconst (v := 0) hx hb dL_law_228 (by decide) ?_
                  exact absurd h (by decide)
              · replace h := q_f e17 h
                by_cases e29 : ((xs (v18.1).toNatClampNeg) &&& 31) = 2
                · replace h := q_t e29 h
                  have tb := tb_in e29 (lo := 0) (hi := 23) (offs := #[112, 155, 198, 241, 274, 307, 340, 363, 386, 419, 462, 505, 558, 581, 624, 657, 670, 703, 726, 739, 752, 765, 778, 791]) (off := 198) (by decide)
                  refine lv_tableIn (tgt := 230) hx hb dL_law_32 tb.1 tb.2.1 tb.2.2 (by decide) ?_
                  refine lv_aload_n hx hb dL_law_230 rfl (lv_at hl 1 rfl) ?_
                  refine lv_aload_n hx hb dL_law_231 rfl (lv_at hl 0 rfl) ?_
                  refine lv_iload_n hx hb dL_law_232 rfl (lv_at hl 3 rfl) ?_
                  refine lv_iconst (v := 1) hx hb dL_law_233 (by decide) ?_
                  refine lv_iadd hx hb dL_law_234 ?_
                  obtain ⟨g30, h⟩ := q_g h
                  refine va_sld hx hb hX hbl hbZ hW.2.2 g30 dL_law_235 ?_
                  refine lv_aload_n hx hb dL_law_236 rfl (lv_at hl 0 rfl) ?_
                  refine lv_iload_n hx hb dL_law_237 rfl (lv_at hl 3 rfl) ?_
                  refine lv_iconst (v := 2) hx hb dL_law_238 (by decide) ?_
                  refine lv_iadd hx hb dL_law_239 ?_
                  obtain ⟨g31, h⟩ := q_g h
                  refine va_sld hx hb hX hbl hbZ hW.2.2 g31 dL_law_240 ?_
                  refine lv_aload_n hx hb dL_law_241 rfl (lv_at hl 0 rfl) ?_
                  refine lv_iload_n hx hb dL_law_242 rfl (lv_at hl 3 rfl) ?_
                  refine lv_iconst (v := 3) hx hb dL_law_243 (by decide) ?_
                  refine lv_iadd hx hb dL_law_244 ?_
                  obtain ⟨g32, h⟩ := q_g h
                  refine va_sld hx hb hX hbl hbZ hW.2.2 g32 dL_law_245 ?_
                  obtain ⟨t33, h34, h⟩ := q_b h
                  refine r_cVi C hW (nA := 3) (As := [.int (xs (v18.1 + 1).toNatClampNeg), .int (xs (v18.1 + 2).toNatClampNeg), .int (xs (v18.1 + 3).toNatClampNeg)]) (rest := []) (c_X5_dash l g A 0 v18.2.1 (xs (v18.1 + 1).toNatClampNeg) (xs (v18.1 + 2).toNatClampNeg) (xs (v18.1 + 3).toNatClampNeg) _ _ h34) gL_law_X5_dash rfl ⟨rfl, wo_X5_dash⟩ (rmk hR rfl rfl) rfl rfl rfl rfl hl.1 (Nat.le_of_ble_eq_true rfl) hcs dL_law_246 (n := 2) (is := [0]) (rs := [1]) (bs' := [wX5 g A 0 t33.2, wX6 g A2 0 v18.2.2]) rfl rfl pm_40 rfl rfl rfl (fun H locs hW => ?_)
                  refine lv_aload_n hx hb dL_law_249 rfl (lv_at hl 2 rfl) ?_
                  refine lv_aload_n hx hb dL_law_250 rfl (lv_at hl 0 rfl) ?_
                  refine lv_iload_n hx hb dL_law_251 rfl (lv_at hl 3 rfl) ?_
                  refine lv_iconst (v := 1) hx hb dL_law_252 (by decide) ?_
                  refine lv_iadd hx hb dL_law_253 ?_
                  obtain ⟨g35, h⟩ := q_g h
                  refine va_sld hx hb hX hbl hbZ hW.2.2 g35 dL_law_254 ?_
                  refine lv_aload_n hx hb dL_law_255 rfl (lv_at hl 0 rfl) ?_
                  refine lv_iload_n hx hb dL_law_256 rfl (lv_at hl 3 rfl) ?_
                  refine lv_iconst (v := 2) hx hb dL_law_257 (by decide) ?_
                  refine lv_iadd hx hb dL_law_258 ?_
                  obtain ⟨g36, h⟩ := q_g h
                  refine va_sld hx hb hX hbl hbZ hW.2.2 g36 dL_law_259 ?_
                  refine lv_aload_n hx hb dL_law_260 rfl (lv_at hl 0 rfl) ?_
                  refine lv_iload_n hx hb dL_law_261 rfl (lv_at hl 3 rfl) ?_
                  refine lv_iconst (v := 3) hx hb dL_law_262 (by decide) ?_
                  refine lv_iadd hx hb dL_law_263 ?_
                  obtain ⟨g37, h⟩ := q_g h
                  refine va_sld hx hb hX hbl hbZ hW.2.2 g37 dL_law_264 ?_
                  obtain ⟨t38, h39, h⟩ := q_b h
                  refine r_cVi C hW (nA := 3) (As := [.int (xs (v18.1 + 1).toNatClampNeg), .int (xs (v18.1 + 2).toNatClampNeg), .int (xs (v18.1 + 3).toNatClampNeg)]) (rest := [.int t33.1]) (c_X6_dash l g A2 0 v18.2.2 (xs (v18.1 + 1).toNatClampNeg) (xs (v18.1 + 2).toNatClampNeg) (xs (v18.1 + 3).toNatClampNeg) _ _ h39) gL_law_X6_dash rfl ⟨rfl, wo_X6_dash⟩ (rmk hR rfl rfl) rfl rfl rfl rfl hl.1 (Nat.le_of_ble_eq_true rfl) hcs dL_law_265 (n := 2) (is := [1]) (rs := [0]) (bs' := [wX5 g A 0 t33.2, wX6 g A2 0 t38.2]) rfl rfl pm_41 rfl rfl rfl (fun H locs hW => ?_)
                  refine lv_icmp_eq (tgt := 836) hx hb dL_law_268 (by decide) (fun e40 => ?_) (fun e40 => ?_)
                  · replace h := q_t e40 h
                    refine lv_iinc (v := (v18.1 + 5)) (lv' := [(3, .int (v18.1 + 5)), (0, .ref b), (1, .ref (A 0)), (2, .ref (A2 0))]) hx hb dL_law_836 hl (k := 3) rfl rfl (by decide) rfl (fun ls hl => ?_)
                    refine lv_goto (tgt := 18) hx hb dL_law_839 (by decide) ?_
                    exact ih18 ((v18.1 + 5), t33.2, t38.2) h _ _ hW _ (lv_sub hl [1, 2, 3, 0] rfl)
                  · replace h := q_f e40 h
                    refine lv_iconst (v := 0) hx hb dL_law_271 (by decide) ?_
                    exact absurd h (by decide)
                · replace h := q_f e29 h
                  by_cases e41 : ((xs (v18.1).toNatClampNeg) &&& 31) = 3
                  · replace h := q_t e41 h
                    have tb := tb_in e41 (lo := 0) (hi := 23) (offs := #[112, 155, 198, 241, 274, 307, 340, 363, 386, 419, 462, 505, 558, 581, 624, 657, 670, 703, 726, 739, 752, 765, 778, 791]) (off := 241) (by decide)
                    refine lv_tableIn (tgt := 273) hx hb dL_law_32 tb.1 tb.2.1 tb.2.2 (by decide) ?_
                    refine lv_aload_n hx hb dL_law_273 rfl (lv_at hl 1 rfl) ?_
                    refine lv_aload_n hx hb dL_law_274 rfl (lv_at hl 0 rfl) ?_
                    refine lv_iload_n hx hb dL_law_275 rfl (lv_at hl 3 rfl) ?_
                    refine lv_iconst (v := 1) hx hb dL_law_276 (by decide) ?_
                    refine lv_iadd hx hb dL_law_277 ?_
                    obtain ⟨g42, h⟩ := q_g h
                    refine va_sld hx hb hX hbl hbZ hW.2.2 g42 dL_law_278 ?_
                    refine lv_aload_n hx hb dL_law_279 rfl (lv_at hl 0 rfl) ?_
                    refine lv_iload_n hx hb dL_law_280 rfl (lv_at hl 3 rfl) ?_
                    refine lv_iconst (v := 2) hx hb dL_law_281 (by decide) ?_
                    refine lv_iadd hx hb dL_law_282 ?_
                    obtain ⟨g43, h⟩ := q_g h
                    refine va_sld hx hb hX hbl hbZ hW.2.2 g43 dL_law_283 ?_
                    obtain ⟨t44, h45, h⟩ := q_b h
                    refine r_cVi C hW (nA := 2) (As := [.int (xs (v18.1 + 1).toNatClampNeg), .int (xs (v18.1 + 2).toNatClampNeg)]) (rest := []) (c_X5_erase l g A 0 v18.2.1 (xs (v18.1 + 1).toNatClampNeg) (xs (v18.1 + 2).toNatClampNeg) _ _ h45) gL_law_X5_erase rfl ⟨rfl, wo_X5_erase⟩ (rmk hR rfl rfl) rfl rfl rfl rfl hl.1 (Nat.le_of_ble_eq_true rfl) hcs dL_law_284 (n := 2) (is := [0]) (rs := [1]) (bs' := [wX5 g A 0 t44.2, wX6 g A2 0 v18.2.2]) rfl rfl pm_40 rfl rfl rfl (fun H locs hW => ?_)
                    refine lv_aload_n hx hb dL_law_287 rfl (lv_at hl 2 rfl) ?_
                    refine lv_aload_n hx hb dL_law_288 rfl (lv_at hl 0 rfl) ?_
                    refine lv_iload_n hx hb dL_law_289 rfl (lv_at hl 3 rfl) ?_
                    refine lv_iconst (v := 1) hx hb dL_law_290 (by decide) ?_
                    refine lv_iadd hx hb dL_law_291 ?_
                    obtain ⟨g46, h⟩ := q_g h
                    refine va_sld hx hb hX hbl hbZ hW.2.2 g46 dL_law_292 ?_
                    refine lv_aload_n hx hb dL_law_293 rfl (lv_at hl 0 rfl) ?_
                    refine lv_iload_n hx hb dL_law_294 rfl (lv_at hl 3 rfl) ?_
                    refine lv_iconst (v := 2) hx hb dL_law_295 (by decide) ?_
                    refine lv_iadd hx hb dL_law_296 ?_
                    obtain ⟨g47, h⟩ := q_g h
                    refine va_sld hx hb hX hbl hbZ hW.2.2 g47 dL_law_297 ?_
                    obtain ⟨t48, h49, h⟩ := q_b h
                    refine r_cVi C hW (nA := 2) (As := [.int (xs (v18.1 + 1).toNatClampNeg), .int (xs (v18.1 + 2).toNatClampNeg)]) (rest := [.int t44.1]) (c_X6_erase l g A2 0 v18.2.2 (xs (v18.1 + 1).toNatClampNeg) (xs (v18.1 + 2).toNatClampNeg) _ _ h49) gL_law_X6_erase rfl ⟨rfl, wo_X6_erase⟩ (rmk hR rfl rfl) rfl rfl rfl rfl hl.1 (Nat.le_of_ble_eq_true rfl) hcs dL_law_298 (n := 2) (is := [1]) (rs := [0]) (bs' := [wX5 g A 0 t44.2, wX6 g A2 0 t48.2]) rfl rfl pm_41 rfl rfl rfl (fun H locs hW => ?_)
                    refine lv_icmp_eq (tgt := 836) hx hb dL_law_301 (by decide) (fun e50 => ?_) (fun e50 => ?_)
                    · replace h := q_t e50 h
                      refine lv_iinc (v := (v18.1 + 5)) (lv' := [(3, .int (v18.1 + 5)), (0, .ref b), (1, .ref (A 0)), (2, .ref (A2 0))]) hx hb dL_law_836 hl (k := 3) rfl rfl (by decide) rfl (fun ls hl => ?_)
                      refine lv_goto (tgt := 18) hx hb dL_law_839 (by decide) ?_
                      exact ih18 ((v18.1 + 5), t44.2, t48.2) h _ _ hW _ (lv_sub hl [1, 2, 3, 0] rfl)
                    · replace h := q_f e50 h
                      refine lv_iconst (v := 0) hx hb dL_law_304 (by decide) ?_
                      exact absurd h (by decide)
                  · replace h := q_f e41 h
                    by_cases e51 : ((xs (v18.1).toNatClampNeg) &&& 31) = 4
                    · replace h := q_t e51 h
                      have tb := tb_in e51 (lo := 0) (hi := 23) (offs := #[112, 155, 198, 241, 274, 307, 340, 363, 386, 419, 462, 505, 558, 581, 624, 657, 670, 703, 726, 739, 752, 765, 778, 791]) (off := 274) (by decide)
                      refine lv_tableIn (tgt := 306) hx hb dL_law_32 tb.1 tb.2.1 tb.2.2 (by decide) ?_
                      refine lv_aload_n hx hb dL_law_306 rfl (lv_at hl 1 rfl) ?_
                      refine lv_aload_n hx hb dL_law_307 rfl (lv_at hl 0 rfl) ?_
                      refine lv_iload_n hx hb dL_law_308 rfl (lv_at hl 3 rfl) ?_
                      refine lv_iconst (v := 1) hx hb dL_law_309 (by decide) ?_
                      refine lv_iadd hx hb dL_law_310 ?_
                      obtain ⟨g52, h⟩ := q_g h
                      refine va_sld hx hb hX hbl hbZ hW.2.2 g52 dL_law_311 ?_
                      refine lv_aload_n hx hb dL_law_312 rfl (lv_at hl 0 rfl) ?_
                      refine lv_iload_n hx hb dL_law_313 rfl (lv_at hl 3 rfl) ?_
                      refine lv_iconst (v := 2) hx hb dL_law_314 (by decide) ?_
                      refine lv_iadd hx hb dL_law_315 ?_
                      obtain ⟨g53, h⟩ := q_g h
                      refine va_sld hx hb hX hbl hbZ hW.2.2 g53 dL_law_316 ?_
                      obtain ⟨t54, h55, h⟩ := q_b h
                      refine r_cVi C hW (nA := 2) (As := [.int (xs (v18.1 + 1).toNatClampNeg), .int (xs (v18.1 + 2).toNatClampNeg)]) (rest := []) (c_X5_set l g A 0 v18.2.1 (xs (v18.1 + 1).toNatClampNeg) (xs (v18.1 + 2).toNatClampNeg) _ _ h55) gL_law_X5_set rfl ⟨rfl, wo_X5_set⟩ (rmk hR rfl rfl) rfl rfl rfl rfl hl.1 (Nat.le_of_ble_eq_true rfl) hcs dL_law_317 (n := 2) (is := [0]) (rs := [1]) (bs' := [wX5 g A 0 t54.2, wX6 g A2 0 v18.2.2]) rfl rfl pm_40 rfl rfl rfl (fun H locs hW => ?_)
                      refine lv_aload_n hx hb dL_law_320 rfl (lv_at hl 2 rfl) ?_
                      refine lv_aload_n hx hb dL_law_321 rfl (lv_at hl 0 rfl) ?_
                      refine lv_iload_n hx hb dL_law_322 rfl (lv_at hl 3 rfl) ?_
                      refine lv_iconst (v := 1) hx hb dL_law_323 (by decide) ?_
                      refine lv_iadd hx hb dL_law_324 ?_
                      obtain ⟨g56, h⟩ := q_g h
                      refine va_sld hx hb hX hbl hbZ hW.2.2 g56 dL_law_325 ?_
                      refine lv_aload_n hx hb dL_law_326 rfl (lv_at hl 0 rfl) ?_
                      refine lv_iload_n hx hb dL_law_327 rfl (lv_at hl 3 rfl) ?_
                      refine lv_iconst (v := 2) hx hb dL_law_328 (by decide) ?_
                      refine lv_iadd hx hb dL_law_329 ?_
                      obtain ⟨g57, h⟩ := q_g h
                      refine va_sld hx hb hX hbl hbZ hW.2.2 g57 dL_law_330 ?_
                      obtain ⟨t58, h59, h⟩ := q_b h
                      refine r_cVi C hW (nA := 2) (As := [.int (xs (v18.1 + 1).toNatClampNeg), .int (xs (v18.1 + 2).toNatClampNeg)]) (rest := [.int t54.1]) (c_X6_set l g A2 0 v18.2.2 (xs (v18.1 + 1).toNatClampNeg) (xs (v18.1 + 2).toNatClampNeg) _ _ h59) gL_law_X6_set rfl ⟨rfl, wo_X6_set⟩ (rmk hR rfl rfl) rfl rfl rfl rfl hl.1 (Nat.le_of_ble_eq_true rfl) hcs dL_law_331 (n := 2) (is := [1]) (rs := [0]) (bs' := [wX5 g A 0 t54.2, wX6 g A2 0 t58.2]) rfl rfl pm_41 rfl rfl rfl (fun H locs hW => ?_)
                      refine lv_icmp_eq (tgt := 836) hx hb dL_law_334 (by decide) (fun e60 => ?_) (fun e60 => ?_)
                      · replace h := q_t e60 h
                        refine lv_iinc (v := (v18.1 + 5)) (lv' := [(3, .int (v18.1 + 5)), (0, .ref b), (1, .ref (A 0)), (2, .ref (A2 0))]) hx hb dL_law_836 hl (k := 3) rfl rfl (by decide) rfl (fun ls hl => ?_)
                        refine lv_goto (tgt := 18) hx hb dL_law_839 (by decide) ?_
                        exact ih18 ((v18.1 + 5), t54.2, t58.2) h _ _ hW _ (lv_sub hl [1, 2, 3, 0] rfl)
                      · replace h := q_f e60 h
                        refine lv_iconst (v := 0) hx hb dL_law_337 (by decide) ?_
                        exact absurd h (by decide)
                    · replace h := q_f e51 h
                      by_cases e61 : ((xs (v18.1).toNatClampNeg) &&& 31) = 5
                      · replace h := q_t e61 h
                        have tb := tb_in e61 (lo := 0) (hi := 23) (offs := #[112, 155, 198, 241, 274, 307, 340, 363, 386, 419, 462, 505, 558, 581, 624, 657, 670, 703, 726, 739, 752, 765, 778, 791]) (off := 307) (by decide)
                        refine lv_tableIn (tgt := 339) hx hb dL_law_32 tb.1 tb.2.1 tb.2.2 (by decide) ?_
                        refine lv_aload_n hx hb dL_law_339 rfl (lv_at hl 1 rfl) ?_
                        refine lv_aload_n hx hb dL_law_340 rfl (lv_at hl 0 rfl) ?_
                        refine lv_iload_n hx hb dL_law_341 rfl (lv_at hl 3 rfl) ?_
                        refine lv_iconst (v := 1) hx hb dL_law_342 (by decide) ?_
                        refine lv_iadd hx hb dL_law_343 ?_
                        obtain ⟨g62, h⟩ := q_g h
                        refine va_sld hx hb hX hbl hbZ hW.2.2 g62 dL_law_344 ?_
                        refine lv_aload_n hx hb dL_law_345 rfl (lv_at hl 0 rfl) ?_
                        refine lv_iload_n hx hb dL_law_346 rfl (lv_at hl 3 rfl) ?_
                        refine lv_iconst (v := 2) hx hb dL_law_347 (by decide) ?_
                        refine lv_iadd hx hb dL_law_348 ?_
                        obtain ⟨g63, h⟩ := q_g h
                        refine va_sld hx hb hX hbl hbZ hW.2.2 g63 dL_law_349 ?_
                        obtain ⟨t64, h65, h⟩ := q_b h
                        refine r_cVi C hW (nA := 2) (As := [.int (xs (v18.1 + 1).toNatClampNeg), .int (xs (v18.1 + 2).toNatClampNeg)]) (rest := []) (c_X5_traffic l g A 0 v18.2.1 (xs (v18.1 + 1).toNatClampNeg) (xs (v18.1 + 2).toNatClampNeg) _ _ h65) gL_law_X5_traffic rfl ⟨rfl, wo_X5_traffic⟩ (rmk hR rfl rfl) rfl rfl rfl rfl hl.1 (Nat.le_of_ble_eq_true rfl) hcs dL_law_350 (n := 2) (is := [0]) (rs := [1]) (bs' := [wX5 g A 0 t64.2, wX6 g A2 0 v18.2.2]) rfl rfl pm_40 rfl rfl rfl (fun H locs hW => ?_)
                        refine lv_aload_n hx hb dL_law_353 rfl (lv_at hl 2 rfl) ?_
                        refine lv_aload_n hx hb dL_law_354 rfl (lv_at hl 0 rfl) ?_
                        refine lv_iload_n hx hb dL_law_355 rfl (lv_at hl 3 rfl) ?_
                        refine lv_iconst (v := 1) hx hb dL_law_356 (by decide) ?_
                        refine lv_iadd hx hb dL_law_357 ?_
                        obtain ⟨g66, h⟩ := q_g h
                        refine va_sld hx hb hX hbl hbZ hW.2.2 g66 dL_law_358 ?_
                        refine lv_aload_n hx hb dL_law_359 rfl (lv_at hl 0 rfl) ?_
                        refine lv_iload_n hx hb dL_law_360 rfl (lv_at hl 3 rfl) ?_
                        refine lv_iconst (v := 2) hx hb dL_law_361 (by decide) ?_
                        refine lv_iadd hx hb dL_law_362 ?_
                        obtain ⟨g67, h⟩ := q_g h
                        refine va_sld hx hb hX hbl hbZ hW.2.2 g67 dL_law_363 ?_
                        obtain ⟨t68, h69, h⟩ := q_b h
                        refine r_cVi C hW (nA := 2) (As := [.int (xs (v18.1 + 1).toNatClampNeg), .int (xs (v18.1 + 2).toNatClampNeg)]) (rest := [.int t64.1]) (c_X6_traffic l g A2 0 v18.2.2 (xs (v18.1 + 1).toNatClampNeg) (xs (v18.1 + 2).toNatClampNeg) _ _ h69) gL_law_X6_traffic rfl ⟨rfl, wo_X6_traffic⟩ (rmk hR rfl rfl) rfl rfl rfl rfl hl.1 (Nat.le_of_ble_eq_true rfl) hcs dL_law_364 (n := 2) (is := [1]) (rs := [0]) (bs' := [wX5 g A 0 t64.2, wX6 g A2 0 t68.2]) rfl rfl pm_41 rfl rfl rfl (fun H locs hW => ?_)
                        refine lv_icmp_eq (tgt := 836) hx hb dL_law_367 (by decide) (fun e70 => ?_) (fun e70 => ?_)
                        · replace h := q_t e70 h
                          refine lv_iinc (v := (v18.1 + 5)) (lv' := [(3, .int (v18.1 + 5)), (0, .ref b), (1, .ref (A 0)), (2, .ref (A2 0))]) hx hb dL_law_836 hl (k := 3) rfl rfl (by decide) rfl (fun ls hl => ?_)
                          refine lv_goto (tgt := 18) hx hb dL_law_839 (by decide) ?_
                          exact ih18 ((v18.1 + 5), t64.2, t68.2) h _ _ hW _ (lv_sub hl [1, 2, 3, 0] rfl)
                        · replace h := q_f e70 h
                          refine lv_iconst (v := 0) hx hb dL_law_370 (by decide) ?_
                          exact absurd h (by decide)
                      · replace h := q_f e61 h
                        by_cases e71 : ((xs (v18.1).toNatClampNeg) &&& 31) = 6
                        · replace h := q_t e71 h
                          have tb := tb_in e71 (lo := 0) (hi := 23) (offs := #[112, 155, 198, 241, 274, 307, 340, 363, 386, 419, 462, 505, 558, 581, 624, 657, 670, 703, 726, 739, 752, 765, 778, 791]) (off := 340) (by decide)
                          refine lv_tableIn (tgt := 372) hx hb dL_law_32 tb.1 tb.2.1 tb.2.2 (by decide) ?_
                          refine lv_aload_n hx hb dL_law_372 rfl (lv_at hl 1 rfl) ?_
                          refine lv_aload_n hx hb dL_law_373 rfl (lv_at hl 0 rfl) ?_
                          refine lv_iload_n hx hb dL_law_374 rfl (lv_at hl 3 rfl) ?_
                          refine lv_iconst (v := 1) hx hb dL_law_375 (by decide) ?_
                          refine lv_iadd hx hb dL_law_376 ?_
                          obtain ⟨g72, h⟩ := q_g h
                          refine va_sld hx hb hX hbl hbZ hW.2.2 g72 dL_law_377 ?_
                          obtain ⟨t73, h74, h⟩ := q_b h
                          refine r_cVi C hW (nA := 1) (As := [.int (xs (v18.1 + 1).toNatClampNeg)]) (rest := []) (c_X5_bring l g A 0 v18.2.1 (xs (v18.1 + 1).toNatClampNeg) _ _ h74) gL_law_X5_bring rfl ⟨rfl, wo_X5_bring⟩ (rmk hR rfl rfl) rfl rfl rfl rfl hl.1 (Nat.le_of_ble_eq_true rfl) hcs dL_law_378 (n := 2) (is := [0]) (rs := [1]) (bs' := [wX5 g A 0 t73.2, wX6 g A2 0 v18.2.2]) rfl rfl pm_40 rfl rfl rfl (fun H locs hW => ?_)
                          refine lv_aload_n hx hb dL_law_381 rfl (lv_at hl 2 rfl) ?_
                          refine lv_aload_n hx hb dL_law_382 rfl (lv_at hl 0 rfl) ?_
                          refine lv_iload_n hx hb dL_law_383 rfl (lv_at hl 3 rfl) ?_
                          refine lv_iconst (v := 1) hx hb dL_law_384 (by decide) ?_
                          refine lv_iadd hx hb dL_law_385 ?_
                          obtain ⟨g75, h⟩ := q_g h
                          refine va_sld hx hb hX hbl hbZ hW.2.2 g75 dL_law_386 ?_
                          obtain ⟨t76, h77, h⟩ := q_b h
                          refine r_cVi C hW (nA := 1) (As := [.int (xs (v18.1 + 1).toNatClampNeg)]) (rest := [.int t73.1]) (c_X6_bring l g A2 0 v18.2.2 (xs (v18.1 + 1).toNatClampNeg) _ _ h77) gL_law_X6_bring rfl ⟨rfl, wo_X6_bring⟩ (rmk hR rfl rfl) rfl rfl rfl rfl hl.1 (Nat.le_of_ble_eq_true rfl) hcs dL_law_387 (n := 2) (is := [1]) (rs := [0]) (bs' := [wX5 g A 0 t73.2, wX6 g A2 0 t76.2]) rfl rfl pm_41 rfl rfl rfl (fun H locs hW => ?_)
                          refine lv_icmp_eq (tgt := 836) hx hb dL_law_390 (by decide) (fun e78 => ?_) (fun e78 => ?_)
                          · replace h := q_t e78 h
                            refine lv_iinc (v := (v18.1 + 5)) (lv' := [(3, .int (v18.1 + 5)), (0, .ref b), (1, .ref (A 0)), (2, .ref (A2 0))]) hx hb dL_law_836 hl (k := 3) rfl rfl (by decide) rfl (fun ls hl => ?_)
                            refine lv_goto (tgt := 18) hx hb dL_law_839 (by decide) ?_
                            exact ih18 ((v18.1 + 5), t73.2, t76.2) h _ _ hW _ (lv_sub hl [1, 2, 3, 0] rfl)
                          · replace h := q_f e78 h
                            refine lv_iconst (v := 0) hx hb dL_law_393 (by decide) ?_
                            exact absurd h (by decide)
                        · replace h := q_f e71 h
                          by_cases e79 : ((xs (v18.1).toNatClampNeg) &&& 31) = 7
                          · replace h := q_t e79 h
                            have tb := tb_in e79 (lo := 0) (hi := 23) (offs := #[112, 155, 198, 241, 274, 307, 340, 363, 386, 419, 462, 505, 558, 581, 624, 657, 670, 703, 726, 739, 752, 765, 778, 791]) (off := 363) (by decide)
                            refine lv_tableIn (tgt := 395) hx hb dL_law_32 tb.1 tb.2.1 tb.2.2 (by decide) ?_
                            refine lv_aload_n hx hb dL_law_395 rfl (lv_at hl 1 rfl) ?_
                            refine lv_aload_n hx hb dL_law_396 rfl (lv_at hl 0 rfl) ?_
                            refine lv_iload_n hx hb dL_law_397 rfl (lv_at hl 3 rfl) ?_
                            refine lv_iconst (v := 1) hx hb dL_law_398 (by decide) ?_
                            refine lv_iadd hx hb dL_law_399 ?_
                            obtain ⟨g80, h⟩ := q_g h
                            refine va_sld hx hb hX hbl hbZ hW.2.2 g80 dL_law_400 ?_
                            obtain ⟨t81, h82, h⟩ := q_b h
                            refine r_cVi C hW (nA := 1) (As := [.int (xs (v18.1 + 1).toNatClampNeg)]) (rest := []) (c_X5_pass l g A 0 v18.2.1 (xs (v18.1 + 1).toNatClampNeg) _ _ h82) gL_law_X5_pass rfl ⟨rfl, wo_X5_pass⟩ (rmk hR rfl rfl) rfl rfl rfl rfl hl.1 (Nat.le_of_ble_eq_true rfl) hcs dL_law_401 (n := 2) (is := [0]) (rs := [1]) (bs' := [wX5 g A 0 t81.2, wX6 g A2 0 v18.2.2]) rfl rfl pm_40 rfl rfl rfl (fun H locs hW => ?_)
                            refine lv_aload_n hx hb dL_law_404 rfl (lv_at hl 2 rfl) ?_
                            refine lv_aload_n hx hb dL_law_405 rfl (lv_at hl 0 rfl) ?_
                            refine lv_iload_n hx hb dL_law_406 rfl (lv_at hl 3 rfl) ?_
                            refine lv_iconst (v := 1) hx hb dL_law_407 (by decide) ?_
                            refine lv_iadd hx hb dL_law_408 ?_
                            obtain ⟨g83, h⟩ := q_g h
                            refine va_sld hx hb hX hbl hbZ hW.2.2 g83 dL_law_409 ?_
                            obtain ⟨t84, h85, h⟩ := q_b h
                            refine r_cVi C hW (nA := 1) (As := [.int (xs (v18.1 + 1).toNatClampNeg)]) (rest := [.int t81.1]) (c_X6_pass l g A2 0 v18.2.2 (xs (v18.1 + 1).toNatClampNeg) _ _ h85) gL_law_X6_pass rfl ⟨rfl, wo_X6_pass⟩ (rmk hR rfl rfl) rfl rfl rfl rfl hl.1 (Nat.le_of_ble_eq_true rfl) hcs dL_law_410 (n := 2) (is := [1]) (rs := [0]) (bs' := [wX5 g A 0 t81.2, wX6 g A2 0 t84.2]) rfl rfl pm_41 rfl rfl rfl (fun H locs hW => ?_)
                            refine lv_icmp_eq (tgt := 836) hx hb dL_law_413 (by decide) (fun e86 => ?_) (fun e86 => ?_)
                            · replace h := q_t e86 h
                              refine lv_iinc (v := (v18.1 + 5)) (lv' := [(3, .int (v18.1 + 5)), (0, .ref b), (1, .ref (A 0)), (2, .ref (A2 0))]) hx hb dL_law_836 hl (k := 3) rfl rfl (by decide) rfl (fun ls hl => ?_)
                              refine lv_goto (tgt := 18) hx hb dL_law_839 (by decide) ?_
                              exact ih18 ((v18.1 + 5), t81.2, t84.2) h _ _ hW _ (lv_sub hl [1, 2, 3, 0] rfl)
                            · replace h := q_f e86 h
                              refine lv_iconst (v := 0) hx hb dL_law_416 (by decide) ?_
                              exact absurd h (by decide)
                          · replace h := q_f e79 h
                            by_cases e87 : ((xs (v18.1).toNatClampNeg) &&& 31) = 8
                            · replace h := q_t e87 h
                              have tb := tb_in e87 (lo := 0) (hi := 23) (offs := #[112, 155, 198, 241, 274, 307, 340, 363, 386, 419, 462, 505, 558, 581, 624, 657, 670, 703, 726, 739, 752, 765, 778, 791]) (off := 386) (by decide)
                              refine lv_tableIn (tgt := 418) hx hb dL_law_32 tb.1 tb.2.1 tb.2.2 (by decide) ?_
                              refine lv_aload_n hx hb dL_law_418 rfl (lv_at hl 1 rfl) ?_
                              refine lv_aload_n hx hb dL_law_419 rfl (lv_at hl 0 rfl) ?_
                              refine lv_iload_n hx hb dL_law_420 rfl (lv_at hl 3 rfl) ?_
                              refine lv_iconst (v := 1) hx hb dL_law_421 (by decide) ?_
                              refine lv_iadd hx hb dL_law_422 ?_
                              obtain ⟨g88, h⟩ := q_g h
                              refine va_sld hx hb hX hbl hbZ hW.2.2 g88 dL_law_423 ?_
                              refine lv_aload_n hx hb dL_law_424 rfl (lv_at hl 0 rfl) ?_
                              refine lv_iload_n hx hb dL_law_425 rfl (lv_at hl 3 rfl) ?_
                              refine lv_iconst (v := 2) hx hb dL_law_426 (by decide) ?_
                              refine lv_iadd hx hb dL_law_427 ?_
                              obtain ⟨g89, h⟩ := q_g h
                              refine va_sld hx hb hX hbl hbZ hW.2.2 g89 dL_law_428 ?_
                              obtain ⟨t90, h91, h⟩ := q_b h
                              refine r_cVi C hW (nA := 2) (As := [.int (xs (v18.1 + 1).toNatClampNeg), .int (xs (v18.1 + 2).toNatClampNeg)]) (rest := []) (c_X5_night l g A 0 v18.2.1 (xs (v18.1 + 1).toNatClampNeg) (xs (v18.1 + 2).toNatClampNeg) _ _ h91) gL_law_X5_night rfl ⟨rfl, wo_X5_night⟩ (rmk hR rfl rfl) rfl rfl rfl rfl hl.1 (Nat.le_of_ble_eq_true rfl) hcs dL_law_429 (n := 2) (is := [0]) (rs := [1]) (bs' := [wX5 g A 0 t90.2, wX6 g A2 0 v18.2.2]) rfl rfl pm_40 rfl rfl rfl (fun H locs hW => ?_)
                              refine lv_aload_n hx hb dL_law_432 rfl (lv_at hl 2 rfl) ?_
                              refine lv_aload_n hx hb dL_law_433 rfl (lv_at hl 0 rfl) ?_
                              refine lv_iload_n hx hb dL_law_434 rfl (lv_at hl 3 rfl) ?_
                              refine lv_iconst (v := 1) hx hb dL_law_435 (by decide) ?_
                              refine lv_iadd hx hb dL_law_436 ?_
                              obtain ⟨g92, h⟩ := q_g h
                              refine va_sld hx hb hX hbl hbZ hW.2.2 g92 dL_law_437 ?_
                              refine lv_aload_n hx hb dL_law_438 rfl (lv_at hl 0 rfl) ?_
                              refine lv_iload_n hx hb dL_law_439 rfl (lv_at hl 3 rfl) ?_
                              refine lv_iconst (v := 2) hx hb dL_law_440 (by decide) ?_
                              refine lv_iadd hx hb dL_law_441 ?_
                              obtain ⟨g93, h⟩ := q_g h
                              refine va_sld hx hb hX hbl hbZ hW.2.2 g93 dL_law_442 ?_
                              obtain ⟨t94, h95, h⟩ := q_b h
                              refine r_cVi C hW (nA := 2) (As := [.int (xs (v18.1 + 1).toNatClampNeg), .int (xs (v18.1 + 2).toNatClampNeg)]) (rest := [.int t90.1]) (c_X6_night l g A2 0 v18.2.2 (xs (v18.1 + 1).toNatClampNeg) (xs (v18.1 + 2).toNatClampNeg) _ _ h95) gL_law_X6_night rfl ⟨rfl, wo_X6_night⟩ (rmk hR rfl rfl) rfl rfl rfl rfl hl.1 (Nat.le_of_ble_eq_true rfl) hcs dL_law_443 (n := 2) (is := [1]) (rs := [0]) (bs' := [wX5 g A 0 t90.2, wX6 g A2 0 t94.2]) rfl rfl pm_41 rfl rfl rfl (fun H locs hW => ?_)
                              refine lv_icmp_eq (tgt := 836) hx hb dL_law_446 (by decide) (fun e96 => ?_) (fun e96 => ?_)
                              · replace h := q_t e96 h
                                refine lv_iinc (v := (v18.1 + 5)) (lv' := [(3, .int (v18.1 + 5)), (0, .ref b), (1, .ref (A 0)), (2, .ref (A2 0))]) hx hb dL_law_836 hl (k := 3) rfl rfl (by decide) rfl (fun ls hl => ?_)
                                refine lv_goto (tgt := 18) hx hb dL_law_839 (by decide) ?_
                                exact ih18 ((v18.1 + 5), t90.2, t94.2) h _ _ hW _ (lv_sub hl [1, 2, 3, 0] rfl)
                              · replace h := q_f e96 h
                                refine lv_iconst (v := 0) hx hb dL_law_449 (by decide) ?_
                                exact absurd h (by decide)
                            · replace h := q_f e87 h
                              by_cases e97 : ((xs (v18.1).toNatClampNeg) &&& 31) = 9
                              · replace h := q_t e97 h
                                have tb := tb_in e97 (lo := 0) (hi := 23) (offs := #[112, 155, 198, 241, 274, 307, 340, 363, 386, 419, 462, 505, 558, 581, 624, 657, 670, 703, 726, 739, 752, 765, 778, 791]) (off := 419) (by decide)
                                refine lv_tableIn (tgt := 451) hx hb dL_law_32 tb.1 tb.2.1 tb.2.2 (by decide) ?_
                                refine lv_aload_n hx hb dL_law_451 rfl (lv_at hl 1 rfl) ?_
                                refine lv_aload_n hx hb dL_law_452 rfl (lv_at hl 0 rfl) ?_
                                refine lv_iload_n hx hb dL_law_453 rfl (lv_at hl 3 rfl) ?_
                                refine lv_iconst (v := 1) hx hb dL_law_454 (by decide) ?_
                                refine lv_iadd hx hb dL_law_455 ?_
                                obtain ⟨g98, h⟩ := q_g h
                                refine va_sld hx hb hX hbl hbZ hW.2.2 g98 dL_law_456 ?_
                                refine lv_aload_n hx hb dL_law_457 rfl (lv_at hl 0 rfl) ?_
                                refine lv_iload_n hx hb dL_law_458 rfl (lv_at hl 3 rfl) ?_
                                refine lv_iconst (v := 2) hx hb dL_law_459 (by decide) ?_
                                refine lv_iadd hx hb dL_law_460 ?_
                                obtain ⟨g99, h⟩ := q_g h
                                refine va_sld hx hb hX hbl hbZ hW.2.2 g99 dL_law_461 ?_
                                refine lv_aload_n hx hb dL_law_462 rfl (lv_at hl 0 rfl) ?_
                                refine lv_iload_n hx hb dL_law_463 rfl (lv_at hl 3 rfl) ?_
                                refine lv_iconst (v := 3) hx hb dL_law_464 (by decide) ?_
                                refine lv_iadd hx hb dL_law_465 ?_
                                obtain ⟨g100, h⟩ := q_g h
                                refine va_sld hx hb hX hbl hbZ hW.2.2 g100 dL_law_466 ?_
                                obtain ⟨t101, h102, h⟩ := q_b h
                                refine r_cVi C hW (nA := 3) (As := [.int (xs (v18.1 + 1).toNatClampNeg), .int (xs (v18.1 + 2).toNatClampNeg), .int (xs (v18.1 + 3).toNatClampNeg)]) (rest := []) (c_X5_cell l g A 0 v18.2.1 (xs (v18.1 + 1).toNatClampNeg) (xs (v18.1 + 2).toNatClampNeg) (xs (v18.1 + 3).toNatClampNeg) _ h102) gL_law_X5_cell rfl ⟨rfl, wo_X5_cell⟩ (rmk hR rfl rfl) rfl rfl rfl rfl hl.1 (Nat.le_of_ble_eq_true rfl) hcs dL_law_467 (n := 2) (is := [0]) (rs := [1]) (bs' := [wX5 g A 0 v18.2.1, wX6 g A2 0 v18.2.2]) rfl rfl pm_40 rfl rfl rfl (fun H locs hW => ?_)
                                refine lv_aload_n hx hb dL_law_470 rfl (lv_at hl 2 rfl) ?_
                                refine lv_aload_n hx hb dL_law_471 rfl (lv_at hl 0 rfl) ?_
                                refine lv_iload_n hx hb dL_law_472 rfl (lv_at hl 3 rfl) ?_
                                refine lv_iconst (v := 1) hx hb dL_law_473 (by decide) ?_
                                refine lv_iadd hx hb dL_law_474 ?_
                                obtain ⟨g103, h⟩ := q_g h
                                refine va_sld hx hb hX hbl hbZ hW.2.2 g103 dL_law_475 ?_
                                refine lv_aload_n hx hb dL_law_476 rfl (lv_at hl 0 rfl) ?_
                                refine lv_iload_n hx hb dL_law_477 rfl (lv_at hl 3 rfl) ?_
                                refine lv_iconst (v := 2) hx hb dL_law_478 (by decide) ?_
                                refine lv_iadd hx hb dL_law_479 ?_
                                obtain ⟨g104, h⟩ := q_g h
                                refine va_sld hx hb hX hbl hbZ hW.2.2 g104 dL_law_480 ?_
                                refine lv_aload_n hx hb dL_law_481 rfl (lv_at hl 0 rfl) ?_
                                refine lv_iload_n hx hb dL_law_482 rfl (lv_at hl 3 rfl) ?_
                                refine lv_iconst (v := 3) hx hb dL_law_483 (by decide) ?_
                                refine lv_iadd hx hb dL_law_484 ?_
                                obtain ⟨g105, h⟩ := q_g h
                                refine va_sld hx hb hX hbl hbZ hW.2.2 g105 dL_law_485 ?_
                                obtain ⟨t106, h107, h⟩ := q_b h
                                refine r_cVi C hW (nA := 3) (As := [.int (xs (v18.1 + 1).toNatClampNeg), .int (xs (v18.1 + 2).toNatClampNeg), .int (xs (v18.1 + 3).toNatClampNeg)]) (rest := [.int t101]) (c_X6_cell l g A2 0 v18.2.2 (xs (v18.1 + 1).toNatClampNeg) (xs (v18.1 + 2).toNatClampNeg) (xs (v18.1 + 3).toNatClampNeg) _ h107) gL_law_X6_cell rfl ⟨rfl, wo_X6_cell⟩ (rmk hR rfl rfl) rfl rfl rfl rfl hl.1 (Nat.le_of_ble_eq_true rfl) hcs dL_law_486 (n := 2) (is := [1]) (rs := [0]) (bs' := [wX5 g A 0 v18.2.1, wX6 g A2 0 v18.2.2]) rfl rfl pm_41 rfl rfl rfl (fun H locs hW => ?_)
                                refine lv_icmp_eq (tgt := 836) hx hb dL_law_489 (by decide) (fun e108 => ?_) (fun e108 => ?_)
                                · replace h := q_t e108 h
                                  refine lv_iinc (v := (v18.1 + 5)) (lv' := [(3, .int (v18.1 + 5)), (0, .ref b), (1, .ref (A 0)), (2, .ref (A2 0))]) hx hb dL_law_836 hl (k := 3) rfl rfl (by decide) rfl (fun ls hl => ?_)
                                  refine lv_goto (tgt := 18) hx hb dL_law_839 (by decide) ?_
                                  exact ih18 ((v18.1 + 5), v18.2.1, v18.2.2) h _ _ hW _ (lv_sub hl [1, 2, 3, 0] rfl)
                                · replace h := q_f e108 h
                                  refine lv_iconst (v := 0) hx hb dL_law_492 (by decide) ?_
                                  exact absurd h (by decide)
                              · replace h := q_f e97 h
                                by_cases e109 : ((xs (v18.1).toNatClampNeg) &&& 31) = 10
                                · replace h := q_t e109 h
                                  have tb := tb_in e109 (lo := 0) (hi := 23) (offs := #[112, 155, 198, 241, 274, 307, 340, 363, 386, 419, 462, 505, 558, 581, 624, 657, 670, 703, 726, 739, 752, 765, 778, 791]) (off := 462) (by decide)
                                  refine lv_tableIn (tgt := 494) hx hb dL_law_32 tb.1 tb.2.1 tb.2.2 (by decide) ?_
                                  refine lv_aload_n hx hb dL_law_494 rfl (lv_at hl 1 rfl) ?_
                                  refine lv_aload_n hx hb dL_law_495 rfl (lv_at hl 0 rfl) ?_
                                  refine lv_iload_n hx hb dL_law_496 rfl (lv_at hl 3 rfl) ?_
                                  refine lv_iconst (v := 1) hx hb dL_law_497 (by decide) ?_
                                  refine lv_iadd hx hb dL_law_498 ?_
                                  obtain ⟨g110, h⟩ := q_g h
                                  refine va_sld hx hb hX hbl hbZ hW.2.2 g110 dL_law_499 ?_
                                  refine lv_aload_n hx hb dL_law_500 rfl (lv_at hl 0 rfl) ?_
                                  refine lv_iload_n hx hb dL_law_501 rfl (lv_at hl 3 rfl) ?_
                                  refine lv_iconst (v := 2) hx hb dL_law_502 (by decide) ?_
                                  refine lv_iadd hx hb dL_law_503 ?_
                                  obtain ⟨g111, h⟩ := q_g h
                                  refine va_sld hx hb hX hbl hbZ hW.2.2 g111 dL_law_504 ?_
                                  refine lv_aload_n hx hb dL_law_505 rfl (lv_at hl 0 rfl) ?_
                                  refine lv_iload_n hx hb dL_law_506 rfl (lv_at hl 3 rfl) ?_
                                  refine lv_iconst (v := 3) hx hb dL_law_507 (by decide) ?_
                                  refine lv_iadd hx hb dL_law_508 ?_
                                  obtain ⟨g112, h⟩ := q_g h
                                  refine va_sld hx hb hX hbl hbZ hW.2.2 g112 dL_law_509 ?_
                                  obtain ⟨t113, h114, h⟩ := q_b h
                                  refine r_cVi C hW (nA := 3) (As := [.int (xs (v18.1 + 1).toNatClampNeg), .int (xs (v18.1 + 2).toNatClampNeg), .int (xs (v18.1 + 3).toNatClampNeg)]) (rest := []) (c_X5_line l g A 0 v18.2.1 (xs (v18.1 + 1).toNatClampNeg) (xs (v18.1 + 2).toNatClampNeg) (xs (v18.1 + 3).toNatClampNeg) _ h114) gL_law_X5_line rfl ⟨rfl, wo_X5_line⟩ (rmk hR rfl rfl) rfl rfl rfl rfl hl.1 (Nat.le_of_ble_eq_true rfl) hcs dL_law_510 (n := 2) (is := [0]) (rs := [1]) (bs' := [wX5 g A 0 v18.2.1, wX6 g A2 0 v18.2.2]) rfl rfl pm_40 rfl rfl rfl (fun H locs hW => ?_)
                                  refine lv_aload_n hx hb dL_law_513 rfl (lv_at hl 2 rfl) ?_
                                  refine lv_aload_n hx hb dL_law_514 rfl (lv_at hl 0 rfl) ?_
                                  refine lv_iload_n hx hb dL_law_515 rfl (lv_at hl 3 rfl) ?_
                                  refine lv_iconst (v := 1) hx hb dL_law_516 (by decide) ?_
                                  refine lv_iadd hx hb dL_law_517 ?_
                                  obtain ⟨g115, h⟩ := q_g h
                                  refine va_sld hx hb hX hbl hbZ hW.2.2 g115 dL_law_518 ?_
                                  refine lv_aload_n hx hb dL_law_519 rfl (lv_at hl 0 rfl) ?_
                                  refine lv_iload_n hx hb dL_law_520 rfl (lv_at hl 3 rfl) ?_
                                  refine lv_iconst (v := 2) hx hb dL_law_521 (by decide) ?_
                                  refine lv_iadd hx hb dL_law_522 ?_
                                  obtain ⟨g116, h⟩ := q_g h
                                  refine va_sld hx hb hX hbl hbZ hW.2.2 g116 dL_law_523 ?_
                                  refine lv_aload_n hx hb dL_law_524 rfl (lv_at hl 0 rfl) ?_
                                  refine lv_iload_n hx hb dL_law_525 rfl (lv_at hl 3 rfl) ?_
                                  refine lv_iconst (v := 3) hx hb dL_law_526 (by decide) ?_
                                  refine lv_iadd hx hb dL_law_527 ?_
                                  obtain ⟨g117, h⟩ := q_g h
                                  refine va_sld hx hb hX hbl hbZ hW.2.2 g117 dL_law_528 ?_
                                  obtain ⟨t118, h119, h⟩ := q_b h
                                  refine r_cVi C hW (nA := 3) (As := [.int (xs (v18.1 + 1).toNatClampNeg), .int (xs (v18.1 + 2).toNatClampNeg), .int (xs (v18.1 + 3).toNatClampNeg)]) (rest := [.int t113]) (c_X6_line l g A2 0 v18.2.2 (xs (v18.1 + 1).toNatClampNeg) (xs (v18.1 + 2).toNatClampNeg) (xs (v18.1 + 3).toNatClampNeg) _ h119) gL_law_X6_line rfl ⟨rfl, wo_X6_line⟩ (rmk hR rfl rfl) rfl rfl rfl rfl hl.1 (Nat.le_of_ble_eq_true rfl) hcs dL_law_529 (n := 2) (is := [1]) (rs := [0]) (bs' := [wX5 g A 0 v18.2.1, wX6 g A2 0 v18.2.2]) rfl rfl pm_41 rfl rfl rfl (fun H locs hW => ?_)
                                  refine lv_icmp_eq (tgt := 836) hx hb dL_law_532 (by decide) (fun e120 => ?_) (fun e120 => ?_)
                                  · replace h := q_t e120 h
                                    refine lv_iinc (v := (v18.1 + 5)) (lv' := [(3, .int (v18.1 + 5)), (0, .ref b), (1, .ref (A 0)), (2, .ref (A2 0))]) hx hb dL_law_836 hl (k := 3) rfl rfl (by decide) rfl (fun ls hl => ?_)
                                    refine lv_goto (tgt := 18) hx hb dL_law_839 (by decide) ?_
                                    exact ih18 ((v18.1 + 5), v18.2.1, v18.2.2) h _ _ hW _ (lv_sub hl [1, 2, 3, 0] rfl)
                                  · replace h := q_f e120 h
                                    refine lv_iconst (v := 0) hx hb dL_law_535 (by decide) ?_
                                    exact absurd h (by decide)
                                · replace h := q_f e109 h
                                  by_cases e121 : ((xs (v18.1).toNatClampNeg) &&& 31) = 11
                                  · replace h := q_t e121 h
                                    have tb := tb_in e121 (lo := 0) (hi := 23) (offs := #[112, 155, 198, 241, 274, 307, 340, 363, 386, 419, 462, 505, 558, 581, 624, 657, 670, 703, 726, 739, 752, 765, 778, 791]) (off := 505) (by decide)
                                    refine lv_tableIn (tgt := 537) hx hb dL_law_32 tb.1 tb.2.1 tb.2.2 (by decide) ?_
                                    refine lv_aload_n hx hb dL_law_537 rfl (lv_at hl 1 rfl) ?_
                                    refine lv_aload_n hx hb dL_law_538 rfl (lv_at hl 0 rfl) ?_
                                    refine lv_iload_n hx hb dL_law_539 rfl (lv_at hl 3 rfl) ?_
                                    refine lv_iconst (v := 1) hx hb dL_law_540 (by decide) ?_
                                    refine lv_iadd hx hb dL_law_541 ?_
                                    obtain ⟨g122, h⟩ := q_g h
                                    refine va_sld hx hb hX hbl hbZ hW.2.2 g122 dL_law_542 ?_
                                    refine lv_aload_n hx hb dL_law_543 rfl (lv_at hl 0 rfl) ?_
                                    refine lv_iload_n hx hb dL_law_544 rfl (lv_at hl 3 rfl) ?_
                                    refine lv_iconst (v := 2) hx hb dL_law_545 (by decide) ?_
                                    refine lv_iadd hx hb dL_law_546 ?_
                                    obtain ⟨g123, h⟩ := q_g h
                                    refine va_sld hx hb hX hbl hbZ hW.2.2 g123 dL_law_547 ?_
                                    refine lv_aload_n hx hb dL_law_548 rfl (lv_at hl 0 rfl) ?_
                                    refine lv_iload_n hx hb dL_law_549 rfl (lv_at hl 3 rfl) ?_
                                    refine lv_iconst (v := 3) hx hb dL_law_550 (by decide) ?_
                                    refine lv_iadd hx hb dL_law_551 ?_
                                    obtain ⟨g124, h⟩ := q_g h
                                    refine va_sld hx hb hX hbl hbZ hW.2.2 g124 dL_law_552 ?_
                                    refine lv_aload_n hx hb dL_law_553 rfl (lv_at hl 0 rfl) ?_
                                    refine lv_iload_n hx hb dL_law_554 rfl (lv_at hl 3 rfl) ?_
                                    refine lv_iconst (v := 4) hx hb dL_law_555 (by decide) ?_
                                    refine lv_iadd hx hb dL_law_556 ?_
                                    obtain ⟨g125, h⟩ := q_g h
                                    refine va_sld hx hb hX hbl hbZ hW.2.2 g125 dL_law_557 ?_
                                    obtain ⟨t126, h127, h⟩ := q_b h
                                    refine r_cVi C hW (nA := 4) (As := [.int (xs (v18.1 + 1).toNatClampNeg), .int (xs (v18.1 + 2).toNatClampNeg), .int (xs (v18.1 + 3).toNatClampNeg), .int (xs (v18.1 + 4).toNatClampNeg)]) (rest := []) (c_X5_mayChange l g A 0 v18.2.1 (xs (v18.1 + 1).toNatClampNeg) (xs (v18.1 + 2).toNatClampNeg) (xs (v18.1 + 3).toNatClampNeg) (xs (v18.1 + 4).toNatClampNeg) _ h127) gL_law_X5_mayChange rfl ⟨rfl, wo_X5_mayChange⟩ (rmk hR rfl rfl) rfl rfl rfl rfl hl.1 (Nat.le_of_ble_eq_true rfl) hcs dL_law_558 (n := 2) (is := [0]) (rs := [1]) (bs' := [wX5 g A 0 v18.2.1, wX6 g A2 0 v18.2.2]) rfl rfl pm_40 rfl rfl rfl (fun H locs hW => ?_)
                                    refine lv_aload_n hx hb dL_law_561 rfl (lv_at hl 2 rfl) ?_
                                    refine lv_aload_n hx hb dL_law_562 rfl (lv_at hl 0 rfl) ?_
                                    refine lv_iload_n hx hb dL_law_563 rfl (lv_at hl 3 rfl) ?_
                                    refine lv_iconst (v := 1) hx hb dL_law_564 (by decide) ?_
                                    refine lv_iadd hx hb dL_law_565 ?_
                                    obtain ⟨g128, h⟩ := q_g h
                                    refine va_sld hx hb hX hbl hbZ hW.2.2 g128 dL_law_566 ?_
                                    refine lv_aload_n hx hb dL_law_567 rfl (lv_at hl 0 rfl) ?_
                                    refine lv_iload_n hx hb dL_law_568 rfl (lv_at hl 3 rfl) ?_
                                    refine lv_iconst (v := 2) hx hb dL_law_569 (by decide) ?_
                                    refine lv_iadd hx hb dL_law_570 ?_
                                    obtain ⟨g129, h⟩ := q_g h
                                    refine va_sld hx hb hX hbl hbZ hW.2.2 g129 dL_law_571 ?_
                                    refine lv_aload_n hx hb dL_law_572 rfl (lv_at hl 0 rfl) ?_
                                    refine lv_iload_n hx hb dL_law_573 rfl (lv_at hl 3 rfl) ?_
                                    refine lv_iconst (v := 3) hx hb dL_law_574 (by decide) ?_
                                    refine lv_iadd hx hb dL_law_575 ?_
                                    obtain ⟨g130, h⟩ := q_g h
                                    refine va_sld hx hb hX hbl hbZ hW.2.2 g130 dL_law_576 ?_
                                    refine lv_aload_n hx hb dL_law_577 rfl (lv_at hl 0 rfl) ?_
                                    refine lv_iload_n hx hb dL_law_578 rfl (lv_at hl 3 rfl) ?_
                                    refine lv_iconst (v := 4) hx hb dL_law_579 (by decide) ?_
                                    refine lv_iadd hx hb dL_law_580 ?_
                                    obtain ⟨g131, h⟩ := q_g h
                                    refine va_sld hx hb hX hbl hbZ hW.2.2 g131 dL_law_581 ?_
                                    obtain ⟨t132, h133, h⟩ := q_b h
                                    refine r_cVi C hW (nA := 4) (As := [.int (xs (v18.1 + 1).toNatClampNeg), .int (xs (v18.1 + 2).toNatClampNeg), .int (xs (v18.1 + 3).toNatClampNeg), .int (xs (v18.1 + 4).toNatClampNeg)]) (rest := [.int t126]) (c_X6_mayChange l g A2 0 v18.2.2 (xs (v18.1 + 1).toNatClampNeg) (xs (v18.1 + 2).toNatClampNeg) (xs (v18.1 + 3).toNatClampNeg) (xs (v18.1 + 4).toNatClampNeg) _ h133) gL_law_X6_mayChange rfl ⟨rfl, wo_X6_mayChange⟩ (rmk hR rfl rfl) rfl rfl rfl rfl hl.1 (Nat.le_of_ble_eq_true rfl) hcs dL_law_582 (n := 2) (is := [1]) (rs := [0]) (bs' := [wX5 g A 0 v18.2.1, wX6 g A2 0 v18.2.2]) rfl rfl pm_41 rfl rfl rfl (fun H locs hW => ?_)
                                    refine lv_icmp_eq (tgt := 836) hx hb dL_law_585 (by decide) (fun e134 => ?_) (fun e134 => ?_)
                                    · replace h := q_t e134 h
                                      refine lv_iinc (v := (v18.1 + 5)) (lv' := [(3, .int (v18.1 + 5)), (0, .ref b), (1, .ref (A 0)), (2, .ref (A2 0))]) hx hb dL_law_836 hl (k := 3) rfl rfl (by decide) rfl (fun ls hl => ?_)
                                      refine lv_goto (tgt := 18) hx hb dL_law_839 (by decide) ?_
                                      exact ih18 ((v18.1 + 5), v18.2.1, v18.2.2) h _ _ hW _ (lv_sub hl [1, 2, 3, 0] rfl)
                                    · replace h := q_f e134 h
                                      refine lv_iconst (v := 0) hx hb dL_law_588 (by decide) ?_
                                      exact absurd h (by decide)
                                  · replace h := q_f e121 h
                                    by_cases e135 : ((xs (v18.1).toNatClampNeg) &&& 31) = 12
                                    · replace h := q_t e135 h
                                      have tb := tb_in e135 (lo := 0) (hi := 23) (offs := #[112, 155, 198, 241, 274, 307, 340, 363, 386, 419, 462, 505, 558, 581, 624, 657, 670, 703, 726, 739, 752, 765, 778, 791]) (off := 558) (by decide)
                                      refine lv_tableIn (tgt := 590) hx hb dL_law_32 tb.1 tb.2.1 tb.2.2 (by decide) ?_
                                      refine lv_aload_n hx hb dL_law_590 rfl (lv_at hl 1 rfl) ?_
                                      refine lv_aload_n hx hb dL_law_591 rfl (lv_at hl 0 rfl) ?_
                                      refine lv_iload_n hx hb dL_law_592 rfl (lv_at hl 3 rfl) ?_
                                      refine lv_iconst (v := 1) hx hb dL_law_593 (by decide) ?_
                                      refine lv_iadd hx hb dL_law_594 ?_
                                      obtain ⟨g136, h⟩ := q_g h
                                      refine va_sld hx hb hX hbl hbZ hW.2.2 g136 dL_law_595 ?_
                                      obtain ⟨t137, h138, h⟩ := q_b h
                                      refine r_cVi C hW (nA := 1) (As := [.int (xs (v18.1 + 1).toNatClampNeg)]) (rest := []) (c_X5_total l g A 0 v18.2.1 (xs (v18.1 + 1).toNatClampNeg) _ h138) gL_law_X5_total rfl ⟨rfl, wo_X5_total⟩ (rmk hR rfl rfl) rfl rfl rfl rfl hl.1 (Nat.le_of_ble_eq_true rfl) hcs dL_law_596 (n := 2) (is := [0]) (rs := [1]) (bs' := [wX5 g A 0 v18.2.1, wX6 g A2 0 v18.2.2]) rfl rfl pm_40 rfl rfl rfl (fun H locs hW => ?_)
                                      refine lv_aload_n hx hb dL_law_599 rfl (lv_at hl 2 rfl) ?_
                                      refine lv_aload_n hx hb dL_law_600 rfl (lv_at hl 0 rfl) ?_
                                      refine lv_iload_n hx hb dL_law_601 rfl (lv_at hl 3 rfl) ?_
                                      refine lv_iconst (v := 1) hx hb dL_law_602 (by decide) ?_
                                      refine lv_iadd hx hb dL_law_603 ?_
                                      obtain ⟨g139, h⟩ := q_g h
                                      refine va_sld hx hb hX hbl hbZ hW.2.2 g139 dL_law_604 ?_
                                      obtain ⟨t140, h141, h⟩ := q_b h
                                      refine r_cVi C hW (nA := 1) (As := [.int (xs (v18.1 + 1).toNatClampNeg)]) (rest := [.int t137]) (c_X6_total l g A2 0 v18.2.2 (xs (v18.1 + 1).toNatClampNeg) _ h141) gL_law_X6_total rfl ⟨rfl, wo_X6_total⟩ (rmk hR rfl rfl) rfl rfl rfl rfl hl.1 (Nat.le_of_ble_eq_true rfl) hcs dL_law_605 (n := 2) (is := [1]) (rs := [0]) (bs' := [wX5 g A 0 v18.2.1, wX6 g A2 0 v18.2.2]) rfl rfl pm_41 rfl rfl rfl (fun H locs hW => ?_)
                                      refine lv_icmp_eq (tgt := 836) hx hb dL_law_608 (by decide) (fun e142 => ?_) (fun e142 => ?_)
                                      · replace h := q_t e142 h
                                        refine lv_iinc (v := (v18.1 + 5)) (lv' := [(3, .int (v18.1 + 5)), (0, .ref b), (1, .ref (A 0)), (2, .ref (A2 0))]) hx hb dL_law_836 hl (k := 3) rfl rfl (by decide) rfl (fun ls hl => ?_)
                                        refine lv_goto (tgt := 18) hx hb dL_law_839 (by decide) ?_
                                        exact ih18 ((v18.1 + 5), v18.2.1, v18.2.2) h _ _ hW _ (lv_sub hl [1, 2, 3, 0] rfl)
                                      · replace h := q_f e142 h
                                        refine lv_iconst (v := 0) hx hb dL_law_611 (by decide) ?_
                                        exact absurd h (by decide)
                                    · replace h := q_f e135 h
                                      by_cases e143 : ((xs (v18.1).toNatClampNeg) &&& 31) = 13
                                      · replace h := q_t e143 h
                                        have tb := tb_in e143 (lo := 0) (hi := 23) (offs := #[112, 155, 198, 241, 274, 307, 340, 363, 386, 419, 462, 505, 558, 581, 624, 657, 670, 703, 726, 739, 752, 765, 778, 791]) (off := 581) (by decide)
                                        refine lv_tableIn (tgt := 613) hx hb dL_law_32 tb.1 tb.2.1 tb.2.2 (by decide) ?_
                                        refine lv_aload_n hx hb dL_law_613 rfl (lv_at hl 1 rfl) ?_
                                        refine lv_aload_n hx hb dL_law_614 rfl (lv_at hl 0 rfl) ?_
                                        refine lv_iload_n hx hb dL_law_615 rfl (lv_at hl 3 rfl) ?_
                                        refine lv_iconst (v := 1) hx hb dL_law_616 (by decide) ?_
                                        refine lv_iadd hx hb dL_law_617 ?_
                                        obtain ⟨g144, h⟩ := q_g h
                                        refine va_sld hx hb hX hbl hbZ hW.2.2 g144 dL_law_618 ?_
                                        refine lv_aload_n hx hb dL_law_619 rfl (lv_at hl 0 rfl) ?_
                                        refine lv_iload_n hx hb dL_law_620 rfl (lv_at hl 3 rfl) ?_
                                        refine lv_iconst (v := 2) hx hb dL_law_621 (by decide) ?_
                                        refine lv_iadd hx hb dL_law_622 ?_
                                        obtain ⟨g145, h⟩ := q_g h
                                        refine va_sld hx hb hX hbl hbZ hW.2.2 g145 dL_law_623 ?_
                                        refine lv_aload_n hx hb dL_law_624 rfl (lv_at hl 0 rfl) ?_
                                        refine lv_iload_n hx hb dL_law_625 rfl (lv_at hl 3 rfl) ?_
                                        refine lv_iconst (v := 3) hx hb dL_law_626 (by decide) ?_
                                        refine lv_iadd hx hb dL_law_627 ?_
                                        obtain ⟨g146, h⟩ := q_g h
                                        refine va_sld hx hb hX hbl hbZ hW.2.2 g146 dL_law_628 ?_
                                        obtain ⟨t147, h148, h⟩ := q_b h
                                        refine r_cVi C hW (nA := 3) (As := [.int (xs (v18.1 + 1).toNatClampNeg), .int (xs (v18.1 + 2).toNatClampNeg), .int (xs (v18.1 + 3).toNatClampNeg)]) (rest := []) (c_X5_whyNot l g A 0 v18.2.1 (xs (v18.1 + 1).toNatClampNeg) (xs (v18.1 + 2).toNatClampNeg) (xs (v18.1 + 3).toNatClampNeg) _ h148) gL_law_X5_whyNot rfl ⟨rfl, wo_X5_whyNot⟩ (rmk hR rfl rfl) rfl rfl rfl rfl hl.1 (Nat.le_of_ble_eq_true rfl) hcs dL_law_629 (n := 2) (is := [0]) (rs := [1]) (bs' := [wX5 g A 0 v18.2.1, wX6 g A2 0 v18.2.2]) rfl rfl pm_40 rfl rfl rfl (fun H locs hW => ?_)
                                        refine lv_aload_n hx hb dL_law_632 rfl (lv_at hl 2 rfl) ?_
                                        refine lv_aload_n hx hb dL_law_633 rfl (lv_at hl 0 rfl) ?_
                                        refine lv_iload_n hx hb dL_law_634 rfl (lv_at hl 3 rfl) ?_
                                        refine lv_iconst (v := 1) hx hb dL_law_635 (by decide) ?_
                                        refine lv_iadd hx hb dL_law_636 ?_
                                        obtain ⟨g149, h⟩ := q_g h
                                        refine va_sld hx hb hX hbl hbZ hW.2.2 g149 dL_law_637 ?_
                                        refine lv_aload_n hx hb dL_law_638 rfl (lv_at hl 0 rfl) ?_
                                        refine lv_iload_n hx hb dL_law_639 rfl (lv_at hl 3 rfl) ?_
                                        refine lv_iconst (v := 2) hx hb dL_law_640 (by decide) ?_
                                        refine lv_iadd hx hb dL_law_641 ?_
                                        obtain ⟨g150, h⟩ := q_g h
                                        refine va_sld hx hb hX hbl hbZ hW.2.2 g150 dL_law_642 ?_
                                        refine lv_aload_n hx hb dL_law_643 rfl (lv_at hl 0 rfl) ?_
                                        refine lv_iload_n hx hb dL_law_644 rfl (lv_at hl 3 rfl) ?_
                                        refine lv_iconst (v := 3) hx hb dL_law_645 (by decide) ?_
                                        refine lv_iadd hx hb dL_law_646 ?_
                                        obtain ⟨g151, h⟩ := q_g h
                                        refine va_sld hx hb hX hbl hbZ hW.2.2 g151 dL_law_647 ?_
                                        obtain ⟨t152, h153, h⟩ := q_b h
                                        refine r_cVi C hW (nA := 3) (As := [.int (xs (v18.1 + 1).toNatClampNeg), .int (xs (v18.1 + 2).toNatClampNeg), .int (xs (v18.1 + 3).toNatClampNeg)]) (rest := [.int t147]) (c_X6_whyNot l g A2 0 v18.2.2 (xs (v18.1 + 1).toNatClampNeg) (xs (v18.1 + 2).toNatClampNeg) (xs (v18.1 + 3).toNatClampNeg) _ h153) gL_law_X6_whyNot rfl ⟨rfl, wo_X6_whyNot⟩ (rmk hR rfl rfl) rfl rfl rfl rfl hl.1 (Nat.le_of_ble_eq_true rfl) hcs dL_law_648 (n := 2) (is := [1]) (rs := [0]) (bs' := [wX5 g A 0 v18.2.1, wX6 g A2 0 v18.2.2]) rfl rfl pm_41 rfl rfl rfl (fun H locs hW => ?_)
                                        refine lv_icmp_eq (tgt := 836) hx hb dL_law_651 (by decide) (fun e154 => ?_) (fun e154 => ?_)
                                        · replace h := q_t e154 h
                                          refine lv_iinc (v := (v18.1 + 5)) (lv' := [(3, .int (v18.1 + 5)), (0, .ref b), (1, .ref (A 0)), (2, .ref (A2 0))]) hx hb dL_law_836 hl (k := 3) rfl rfl (by decide) rfl (fun ls hl => ?_)
                                          refine lv_goto (tgt := 18) hx hb dL_law_839 (by decide) ?_
                                          exact ih18 ((v18.1 + 5), v18.2.1, v18.2.2) h _ _ hW _ (lv_sub hl [1, 2, 3, 0] rfl)
                                        · replace h := q_f e154 h
                                          refine lv_iconst (v := 0) hx hb dL_law_654 (by decide) ?_
                                          exact absurd h (by decide)
                                      · replace h := q_f e143 h
                                        by_cases e155 : ((xs (v18.1).toNatClampNeg) &&& 31) = 14
                                        · replace h := q_t e155 h
                                          have tb := tb_in e155 (lo := 0) (hi := 23) (offs := #[112, 155, 198, 241, 274, 307, 340, 363, 386, 419, 462, 505, 558, 581, 624, 657, 670, 703, 726, 739, 752, 765, 778, 791]) (off := 624) (by decide)
                                          refine lv_tableIn (tgt := 656) hx hb dL_law_32 tb.1 tb.2.1 tb.2.2 (by decide) ?_
                                          refine lv_aload_n hx hb dL_law_656 rfl (lv_at hl 1 rfl) ?_
                                          refine lv_aload_n hx hb dL_law_657 rfl (lv_at hl 0 rfl) ?_
                                          refine lv_iload_n hx hb dL_law_658 rfl (lv_at hl 3 rfl) ?_
                                          refine lv_iconst (v := 1) hx hb dL_law_659 (by decide) ?_
                                          refine lv_iadd hx hb dL_law_660 ?_
                                          obtain ⟨g156, h⟩ := q_g h
                                          refine va_sld hx hb hX hbl hbZ hW.2.2 g156 dL_law_661 ?_
                                          refine lv_aload_n hx hb dL_law_662 rfl (lv_at hl 0 rfl) ?_
                                          refine lv_iload_n hx hb dL_law_663 rfl (lv_at hl 3 rfl) ?_
                                          refine lv_iconst (v := 2) hx hb dL_law_664 (by decide) ?_
                                          refine lv_iadd hx hb dL_law_665 ?_
                                          obtain ⟨g157, h⟩ := q_g h
                                          refine va_sld hx hb hX hbl hbZ hW.2.2 g157 dL_law_666 ?_
                                          obtain ⟨t158, h159, h⟩ := q_b h
                                          refine r_cVi C hW (nA := 2) (As := [.int (xs (v18.1 + 1).toNatClampNeg), .int (xs (v18.1 + 2).toNatClampNeg)]) (rest := []) (c_X5_readableFor l g A 0 v18.2.1 (xs (v18.1 + 1).toNatClampNeg) (xs (v18.1 + 2).toNatClampNeg) _ h159) gL_law_X5_readableFor rfl ⟨rfl, wo_X5_readableFor⟩ (rmk hR rfl rfl) rfl rfl rfl rfl hl.1 (Nat.le_of_ble_eq_true rfl) hcs dL_law_667 (n := 2) (is := [0]) (rs := [1]) (bs' := [wX5 g A 0 v18.2.1, wX6 g A2 0 v18.2.2]) rfl rfl pm_40 rfl rfl rfl (fun H locs hW => ?_)
                                          refine lv_aload_n hx hb dL_law_670 rfl (lv_at hl 2 rfl) ?_
                                          refine lv_aload_n hx hb dL_law_671 rfl (lv_at hl 0 rfl) ?_
                                          refine lv_iload_n hx hb dL_law_672 rfl (lv_at hl 3 rfl) ?_
                                          refine lv_iconst (v := 1) hx hb dL_law_673 (by decide) ?_
                                          refine lv_iadd hx hb dL_law_674 ?_
                                          obtain ⟨g160, h⟩ := q_g h
                                          refine va_sld hx hb hX hbl hbZ hW.2.2 g160 dL_law_675 ?_
                                          refine lv_aload_n hx hb dL_law_676 rfl (lv_at hl 0 rfl) ?_
                                          refine lv_iload_n hx hb dL_law_677 rfl (lv_at hl 3 rfl) ?_
                                          refine lv_iconst (v := 2) hx hb dL_law_678 (by decide) ?_
                                          refine lv_iadd hx hb dL_law_679 ?_
                                          obtain ⟨g161, h⟩ := q_g h
                                          refine va_sld hx hb hX hbl hbZ hW.2.2 g161 dL_law_680 ?_
                                          obtain ⟨t162, h163, h⟩ := q_b h
                                          refine r_cVi C hW (nA := 2) (As := [.int (xs (v18.1 + 1).toNatClampNeg), .int (xs (v18.1 + 2).toNatClampNeg)]) (rest := [.int t158]) (c_X6_readableFor l g A2 0 v18.2.2 (xs (v18.1 + 1).toNatClampNeg) (xs (v18.1 + 2).toNatClampNeg) _ h163) gL_law_X6_readableFor rfl ⟨rfl, wo_X6_readableFor⟩ (rmk hR rfl rfl) rfl rfl rfl rfl hl.1 (Nat.le_of_ble_eq_true rfl) hcs dL_law_681 (n := 2) (is := [1]) (rs := [0]) (bs' := [wX5 g A 0 v18.2.1, wX6 g A2 0 v18.2.2]) rfl rfl pm_41 rfl rfl rfl (fun H locs hW => ?_)
                                          refine lv_icmp_eq (tgt := 836) hx hb dL_law_684 (by decide) (fun e164 => ?_) (fun e164 => ?_)
                                          · replace h := q_t e164 h
                                            refine lv_iinc (v := (v18.1 + 5)) (lv' := [(3, .int (v18.1 + 5)), (0, .ref b), (1, .ref (A 0)), (2, .ref (A2 0))]) hx hb dL_law_836 hl (k := 3) rfl rfl (by decide) rfl (fun ls hl => ?_)
                                            refine lv_goto (tgt := 18) hx hb dL_law_839 (by decide) ?_
                                            exact ih18 ((v18.1 + 5), v18.2.1, v18.2.2) h _ _ hW _ (lv_sub hl [1, 2, 3, 0] rfl)
                                          · replace h := q_f e164 h
                                            refine lv_iconst (v := 0) hx hb dL_law_687 (by decide) ?_
                                            exact absurd h (by decide)
                                        · replace h := q_f e155 h
                                          by_cases e165 : ((xs (v18.1).toNatClampNeg) &&& 31) = 15
                                          · replace h := q_t e165 h
                                            have tb := tb_in e165 (lo := 0) (hi := 23) (offs := #[112, 155, 198, 241, 274, 307, 340, 363, 386, 419, 462, 505, 558, 581, 624, 657, 670, 703, 726, 739, 752, 765, 778, 791]) (off := 657) (by decide)
                                            refine lv_tableIn (tgt := 689) hx hb dL_law_32 tb.1 tb.2.1 tb.2.2 (by decide) ?_
                                            refine lv_aload_n hx hb dL_law_689 rfl (lv_at hl 1 rfl) ?_
                                            obtain ⟨t166, h167, h⟩ := q_b h
                                            refine r_cVi C hW (nA := 0) (As := []) (rest := []) (c_X5_bestNight l g A 0 v18.2.1 _ h167) gL_law_X5_bestNight rfl ⟨rfl, wo_X5_bestNight⟩ (rmk hR rfl rfl) rfl rfl rfl rfl hl.1 (Nat.le_of_ble_eq_true rfl) hcs dL_law_690 (n := 2) (is := [0]) (rs := [1]) (bs' := [wX5 g A 0 v18.2.1, wX6 g A2 0 v18.2.2]) rfl rfl pm_40 rfl rfl rfl (fun H locs hW => ?_)
                                            refine lv_aload_n hx hb dL_law_693 rfl (lv_at hl 2 rfl) ?_
                                            obtain ⟨t168, h169, h⟩ := q_b h
                                            refine r_cVi C hW (nA := 0) (As := []) (rest := [.int t166]) (c_X6_bestNight l g A2 0 v18.2.2 _ h169) gL_law_X6_bestNight rfl ⟨rfl, wo_X6_bestNight⟩ (rmk hR rfl rfl) rfl rfl rfl rfl hl.1 (Nat.le_of_ble_eq_true rfl) hcs dL_law_694 (n := 2) (is := [1]) (rs := [0]) (bs' := [wX5 g A 0 v18.2.1, wX6 g A2 0 v18.2.2]) rfl rfl pm_41 rfl rfl rfl (fun H locs hW => ?_)
                                            refine lv_icmp_eq (tgt := 836) hx hb dL_law_697 (by decide) (fun e170 => ?_) (fun e170 => ?_)
                                            · replace h := q_t e170 h
                                              refine lv_iinc (v := (v18.1 + 5)) (lv' := [(3, .int (v18.1 + 5)), (0, .ref b), (1, .ref (A 0)), (2, .ref (A2 0))]) hx hb dL_law_836 hl (k := 3) rfl rfl (by decide) rfl (fun ls hl => ?_)
                                              refine lv_goto (tgt := 18) hx hb dL_law_839 (by decide) ?_
                                              exact ih18 ((v18.1 + 5), v18.2.1, v18.2.2) h _ _ hW _ (lv_sub hl [1, 2, 3, 0] rfl)
                                            · replace h := q_f e170 h
                                              refine lv_iconst (v := 0) hx hb dL_law_700 (by decide) ?_
                                              exact absurd h (by decide)
                                          · replace h := q_f e165 h
                                            by_cases e171 : ((xs (v18.1).toNatClampNeg) &&& 31) = 16
                                            · replace h := q_t e171 h
                                              have tb := tb_in e171 (lo := 0) (hi := 23) (offs := #[112, 155, 198, 241, 274, 307, 340, 363, 386, 419, 462, 505, 558, 581, 624, 657, 670, 703, 726, 739, 752, 765, 778, 791]) (off := 670) (by decide)
                                              refine lv_tableIn (tgt := 702) hx hb dL_law_32 tb.1 tb.2.1 tb.2.2 (by decide) ?_
                                              refine lv_aload_n hx hb dL_law_702 rfl (lv_at hl 1 rfl) ?_
                                              refine lv_aload_n hx hb dL_law_703 rfl (lv_at hl 0 rfl) ?_
                                              refine lv_iload_n hx hb dL_law_704 rfl (lv_at hl 3 rfl) ?_
                                              refine lv_iconst (v := 1) hx hb dL_law_705 (by decide) ?_
                                              refine lv_iadd hx hb dL_law_706 ?_
                                              obtain ⟨g172, h⟩ := q_g h
                                              refine va_sld hx hb hX hbl hbZ hW.2.2 g172 dL_law_707 ?_
                                              refine lv_aload_n hx hb dL_law_708 rfl (lv_at hl 0 rfl) ?_
                                              refine lv_iload_n hx hb dL_law_709 rfl (lv_at hl 3 rfl) ?_
                                              refine lv_iconst (v := 2) hx hb dL_law_710 (by decide) ?_
                                              refine lv_iadd hx hb dL_law_711 ?_
                                              obtain ⟨g173, h⟩ := q_g h
                                              refine va_sld hx hb hX hbl hbZ hW.2.2 g173 dL_law_712 ?_
                                              obtain ⟨t174, h175, h⟩ := q_b h
                                              refine r_cVi C hW (nA := 2) (As := [.int (xs (v18.1 + 1).toNatClampNeg), .int (xs (v18.1 + 2).toNatClampNeg)]) (rest := []) (c_X5_fewestChanges l g A 0 v18.2.1 (xs (v18.1 + 1).toNatClampNeg) (xs (v18.1 + 2).toNatClampNeg) _ _ h175) gL_law_X5_fewestChanges rfl ⟨rfl, wo_X5_fewestChanges⟩ (rmk hR rfl rfl) rfl rfl rfl rfl hl.1 (Nat.le_of_ble_eq_true rfl) hcs dL_law_713 (n := 2) (is := [0]) (rs := [1]) (bs' := [wX5 g A 0 t174.2, wX6 g A2 0 v18.2.2]) rfl rfl pm_40 rfl rfl rfl (fun H locs hW => ?_)
                                              refine lv_aload_n hx hb dL_law_716 rfl (lv_at hl 2 rfl) ?_
                                              refine lv_aload_n hx hb dL_law_717 rfl (lv_at hl 0 rfl) ?_
                                              refine lv_iload_n hx hb dL_law_718 rfl (lv_at hl 3 rfl) ?_
                                              refine lv_iconst (v := 1) hx hb dL_law_719 (by decide) ?_
                                              refine lv_iadd hx hb dL_law_720 ?_
                                              obtain ⟨g176, h⟩ := q_g h
                                              refine va_sld hx hb hX hbl hbZ hW.2.2 g176 dL_law_721 ?_
                                              refine lv_aload_n hx hb dL_law_722 rfl (lv_at hl 0 rfl) ?_
                                              refine lv_iload_n hx hb dL_law_723 rfl (lv_at hl 3 rfl) ?_
                                              refine lv_iconst (v := 2) hx hb dL_law_724 (by decide) ?_
                                              refine lv_iadd hx hb dL_law_725 ?_
                                              obtain ⟨g177, h⟩ := q_g h
                                              refine va_sld hx hb hX hbl hbZ hW.2.2 g177 dL_law_726 ?_
                                              obtain ⟨t178, h179, h⟩ := q_b h
                                              refine r_cVi C hW (nA := 2) (As := [.int (xs (v18.1 + 1).toNatClampNeg), .int (xs (v18.1 + 2).toNatClampNeg)]) (rest := [.int t174.1]) (c_X6_fewestChanges l g A2 0 v18.2.2 (xs (v18.1 + 1).toNatClampNeg) (xs (v18.1 + 2).toNatClampNeg) _ _ h179) gL_law_X6_fewestChanges rfl ⟨rfl, wo_X6_fewestChanges⟩ (rmk hR rfl rfl) rfl rfl rfl rfl hl.1 (Nat.le_of_ble_eq_true rfl) hcs dL_law_727 (n := 2) (is := [1]) (rs := [0]) (bs' := [wX5 g A 0 t174.2, wX6 g A2 0 t178.2]) rfl rfl pm_41 rfl rfl rfl (fun H locs hW => ?_)
                                              refine lv_icmp_eq (tgt := 836) hx hb dL_law_730 (by decide) (fun e180 => ?_) (fun e180 => ?_)
                                              · replace h := q_t e180 h
                                                refine lv_iinc (v := (v18.1 + 5)) (lv' := [(3, .int (v18.1 + 5)), (0, .ref b), (1, .ref (A 0)), (2, .ref (A2 0))]) hx hb dL_law_836 hl (k := 3) rfl rfl (by decide) rfl (fun ls hl => ?_)
                                                refine lv_goto (tgt := 18) hx hb dL_law_839 (by decide) ?_
                                                exact ih18 ((v18.1 + 5), t174.2, t178.2) h _ _ hW _ (lv_sub hl [1, 2, 3, 0] rfl)
                                              · replace h := q_f e180 h
                                                refine lv_iconst (v := 0) hx hb dL_law_733 (by decide) ?_
                                                exact absurd h (by decide)
                                            · replace h := q_f e171 h
                                              by_cases e181 : ((xs (v18.1).toNatClampNeg) &&& 31) = 17
                                              · replace h := q_t e181 h
                                                have tb := tb_in e181 (lo := 0) (hi := 23) (offs := #[112, 155, 198, 241, 274, 307, 340, 363, 386, 419, 462, 505, 558, 581, 624, 657, 670, 703, 726, 739, 752, 765, 778, 791]) (off := 703) (by decide)
                                                refine lv_tableIn (tgt := 735) hx hb dL_law_32 tb.1 tb.2.1 tb.2.2 (by decide) ?_
                                                refine lv_aload_n hx hb dL_law_735 rfl (lv_at hl 1 rfl) ?_
                                                refine lv_aload_n hx hb dL_law_736 rfl (lv_at hl 0 rfl) ?_
                                                refine lv_iload_n hx hb dL_law_737 rfl (lv_at hl 3 rfl) ?_
                                                refine lv_iconst (v := 1) hx hb dL_law_738 (by decide) ?_
                                                refine lv_iadd hx hb dL_law_739 ?_
                                                obtain ⟨g182, h⟩ := q_g h
                                                refine va_sld hx hb hX hbl hbZ hW.2.2 g182 dL_law_740 ?_
                                                obtain ⟨t183, h184, h⟩ := q_b h
                                                refine r_cVi C hW (nA := 1) (As := [.int (xs (v18.1 + 1).toNatClampNeg)]) (rest := []) (c_X5_append l g A 0 v18.2.1 (xs (v18.1 + 1).toNatClampNeg) _ _ h184) gL_law_X5_append rfl ⟨rfl, wo_X5_append⟩ (rmk hR rfl rfl) rfl rfl rfl rfl hl.1 (Nat.le_of_ble_eq_true rfl) hcs dL_law_741 (n := 2) (is := [0]) (rs := [1]) (bs' := [wX5 g A 0 t183.2, wX6 g A2 0 v18.2.2]) rfl rfl pm_40 rfl rfl rfl (fun H locs hW => ?_)
                                                refine lv_aload_n hx hb dL_law_744 rfl (lv_at hl 2 rfl) ?_
                                                refine lv_aload_n hx hb dL_law_745 rfl (lv_at hl 0 rfl) ?_
                                                refine lv_iload_n hx hb dL_law_746 rfl (lv_at hl 3 rfl) ?_
                                                refine lv_iconst (v := 1) hx hb dL_law_747 (by decide) ?_
                                                refine lv_iadd hx hb dL_law_748 ?_
                                                obtain ⟨g185, h⟩ := q_g h
                                                refine va_sld hx hb hX hbl hbZ hW.2.2 g185 dL_law_749 ?_
                                                obtain ⟨t186, h187, h⟩ := q_b h
                                                refine r_cVi C hW (nA := 1) (As := [.int (xs (v18.1 + 1).toNatClampNeg)]) (rest := [.int t183.1]) (c_X6_append l g A2 0 v18.2.2 (xs (v18.1 + 1).toNatClampNeg) _ _ h187) gL_law_X6_append rfl ⟨rfl, wo_X6_append⟩ (rmk hR rfl rfl) rfl rfl rfl rfl hl.1 (Nat.le_of_ble_eq_true rfl) hcs dL_law_750 (n := 2) (is := [1]) (rs := [0]) (bs' := [wX5 g A 0 t183.2, wX6 g A2 0 t186.2]) rfl rfl pm_41 rfl rfl rfl (fun H locs hW => ?_)
                                                refine lv_icmp_eq (tgt := 836) hx hb dL_law_753 (by decide) (fun e188 => ?_) (fun e188 => ?_)
                                                · replace h := q_t e188 h
                                                  refine lv_iinc (v := (v18.1 + 5)) (lv' := [(3, .int (v18.1 + 5)), (0, .ref b), (1, .ref (A 0)), (2, .ref (A2 0))]) hx hb dL_law_836 hl (k := 3) rfl rfl (by decide) rfl (fun ls hl => ?_)
                                                  refine lv_goto (tgt := 18) hx hb dL_law_839 (by decide) ?_
                                                  exact ih18 ((v18.1 + 5), t183.2, t186.2) h _ _ hW _ (lv_sub hl [1, 2, 3, 0] rfl)
                                                · replace h := q_f e188 h
                                                  refine lv_iconst (v := 0) hx hb dL_law_756 (by decide) ?_
                                                  exact absurd h (by decide)
                                              · replace h := q_f e181 h
                                                by_cases e189 : ((xs (v18.1).toNatClampNeg) &&& 31) = 18
                                                · replace h := q_t e189 h
                                                  have tb := tb_in e189 (lo := 0) (hi := 23) (offs := #[112, 155, 198, 241, 274, 307, 340, 363, 386, 419, 462, 505, 558, 581, 624, 657, 670, 703, 726, 739, 752, 765, 778, 791]) (off := 726) (by decide)
                                                  refine lv_tableIn (tgt := 758) hx hb dL_law_32 tb.1 tb.2.1 tb.2.2 (by decide) ?_
                                                  refine lv_aload_n hx hb dL_law_758 rfl (lv_at hl 1 rfl) ?_
                                                  obtain ⟨t190, h191, h⟩ := q_b h
                                                  refine r_cVi C hW (nA := 0) (As := []) (rest := []) (c_X5_clearText l g A 0 v18.2.1 _ _ h191) gL_law_X5_clearText rfl ⟨rfl, wo_X5_clearText⟩ (rmk hR rfl rfl) rfl rfl rfl rfl hl.1 (Nat.le_of_ble_eq_true rfl) hcs dL_law_759 (n := 2) (is := [0]) (rs := [1]) (bs' := [wX5 g A 0 t190.2, wX6 g A2 0 v18.2.2]) rfl rfl pm_40 rfl rfl rfl (fun H locs hW => ?_)
                                                  refine lv_aload_n hx hb dL_law_762 rfl (lv_at hl 2 rfl) ?_
                                                  obtain ⟨t192, h193, h⟩ := q_b h
                                                  refine r_cVi C hW (nA := 0) (As := []) (rest := [.int t190.1]) (c_X6_clearText l g A2 0 v18.2.2 _ _ h193) gL_law_X6_clearText rfl ⟨rfl, wo_X6_clearText⟩ (rmk hR rfl rfl) rfl rfl rfl rfl hl.1 (Nat.le_of_ble_eq_true rfl) hcs dL_law_763 (n := 2) (is := [1]) (rs := [0]) (bs' := [wX5 g A 0 t190.2, wX6 g A2 0 t192.2]) rfl rfl pm_41 rfl rfl rfl (fun H locs hW => ?_)
                                                  refine lv_icmp_eq (tgt := 836) hx hb dL_law_766 (by decide) (fun e194 => ?_) (fun e194 => ?_)
                                                  · replace h := q_t e194 h
                                                    refine lv_iinc (v := (v18.1 + 5)) (lv' := [(3, .int (v18.1 + 5)), (0, .ref b), (1, .ref (A 0)), (2, .ref (A2 0))]) hx hb dL_law_836 hl (k := 3) rfl rfl (by decide) rfl (fun ls hl => ?_)
                                                    refine lv_goto (tgt := 18) hx hb dL_law_839 (by decide) ?_
                                                    exact ih18 ((v18.1 + 5), t190.2, t192.2) h _ _ hW _ (lv_sub hl [1, 2, 3, 0] rfl)
                                                  · replace h := q_f e194 h
                                                    refine lv_iconst (v := 0) hx hb dL_law_769 (by decide) ?_
                                                    exact absurd h (by decide)
                                                · replace h := q_f e189 h
                                                  by_cases e195 : ((xs (v18.1).toNatClampNeg) &&& 31) = 19
                                                  · replace h := q_t e195 h
                                                    have tb := tb_in e195 (lo := 0) (hi := 23) (offs := #[112, 155, 198, 241, 274, 307, 340, 363, 386, 419, 462, 505, 558, 581, 624, 657, 670, 703, 726, 739, 752, 765, 778, 791]) (off := 739) (by decide)
                                                    refine lv_tableIn (tgt := 771) hx hb dL_law_32 tb.1 tb.2.1 tb.2.2 (by decide) ?_
                                                    refine lv_aload_n hx hb dL_law_771 rfl (lv_at hl 1 rfl) ?_
                                                    obtain ⟨t196, h197, h⟩ := q_b h
                                                    refine r_cVi C hW (nA := 0) (As := []) (rest := []) (c_X5_errorPosition l g A 0 v18.2.1 _ h197) gL_law_X5_errorPosition rfl ⟨rfl, wo_X5_errorPosition⟩ (rmk hR rfl rfl) rfl rfl rfl rfl hl.1 (Nat.le_of_ble_eq_true rfl) hcs dL_law_772 (n := 2) (is := [0]) (rs := [1]) (bs' := [wX5 g A 0 v18.2.1, wX6 g A2 0 v18.2.2]) rfl rfl pm_40 rfl rfl rfl (fun H locs hW => ?_)
                                                    refine lv_aload_n hx hb dL_law_775 rfl (lv_at hl 2 rfl) ?_
                                                    obtain ⟨t198, h199, h⟩ := q_b h
                                                    refine r_cVi C hW (nA := 0) (As := []) (rest := [.int t196]) (c_X6_errorPosition l g A2 0 v18.2.2 _ _ h199) gL_law_X6_errorPosition rfl ⟨rfl, wo_X6_errorPosition⟩ (rmk hR rfl rfl) rfl rfl rfl rfl hl.1 (Nat.le_of_ble_eq_true rfl) hcs dL_law_776 (n := 2) (is := [1]) (rs := [0]) (bs' := [wX5 g A 0 v18.2.1, wX6 g A2 0 t198.2]) rfl rfl pm_41 rfl rfl rfl (fun H locs hW => ?_)
                                                    refine lv_icmp_eq (tgt := 836) hx hb dL_law_779 (by decide) (fun e200 => ?_) (fun e200 => ?_)
                                                    · replace h := q_t e200 h
                                                      refine lv_iinc (v := (v18.1 + 5)) (lv' := [(3, .int (v18.1 + 5)), (0, .ref b), (1, .ref (A 0)), (2, .ref (A2 0))]) hx hb dL_law_836 hl (k := 3) rfl rfl (by decide) rfl (fun ls hl => ?_)
                                                      refine lv_goto (tgt := 18) hx hb dL_law_839 (by decide) ?_
                                                      exact ih18 ((v18.1 + 5), v18.2.1, t198.2) h _ _ hW _ (lv_sub hl [1, 2, 3, 0] rfl)
                                                    · replace h := q_f e200 h
                                                      refine lv_iconst (v := 0) hx hb dL_law_782 (by decide) ?_
                                                      exact absurd h (by decide)
                                                  · replace h := q_f e195 h
                                                    by_cases e201 : ((xs (v18.1).toNatClampNeg) &&& 31) = 20
                                                    · replace h := q_t e201 h
                                                      have tb := tb_in e201 (lo := 0) (hi := 23) (offs := #[112, 155, 198, 241, 274, 307, 340, 363, 386, 419, 462, 505, 558, 581, 624, 657, 670, 703, 726, 739, 752, 765, 778, 791]) (off := 752) (by decide)
                                                      refine lv_tableIn (tgt := 784) hx hb dL_law_32 tb.1 tb.2.1 tb.2.2 (by decide) ?_
                                                      refine lv_aload_n hx hb dL_law_784 rfl (lv_at hl 1 rfl) ?_
                                                      obtain ⟨t202, h203, h⟩ := q_b h
                                                      refine r_cVi C hW (nA := 0) (As := []) (rest := []) (c_X5_carryOut l g A 0 v18.2.1 _ _ h203) gL_law_X5_carryOut rfl ⟨rfl, wo_X5_carryOut⟩ (rmk hR rfl rfl) rfl rfl rfl rfl hl.1 (Nat.le_of_ble_eq_true rfl) hcs dL_law_785 (n := 2) (is := [0]) (rs := [1]) (bs' := [wX5 g A 0 t202.2, wX6 g A2 0 v18.2.2]) rfl rfl pm_40 rfl rfl rfl (fun H locs hW => ?_)
                                                      refine lv_aload_n hx hb dL_law_788 rfl (lv_at hl 2 rfl) ?_
                                                      obtain ⟨t204, h205, h⟩ := q_b h
                                                      refine r_cVi C hW (nA := 0) (As := []) (rest := [.int t202.1]) (c_X6_carryOut l g A2 0 v18.2.2 _ _ h205) gL_law_X6_carryOut rfl ⟨rfl, wo_X6_carryOut⟩ (rmk hR rfl rfl) rfl rfl rfl rfl hl.1 (Nat.le_of_ble_eq_true rfl) hcs dL_law_789 (n := 2) (is := [1]) (rs := [0]) (bs' := [wX5 g A 0 t202.2, wX6 g A2 0 t204.2]) rfl rfl pm_41 rfl rfl rfl (fun H locs hW => ?_)
                                                      refine lv_icmp_eq (tgt := 836) hx hb dL_law_792 (by decide) (fun e206 => ?_) (fun e206 => ?_)
                                                      · replace h := q_t e206 h
                                                        refine lv_iinc (v := (v18.1 + 5)) (lv' := [(3, .int (v18.1 + 5)), (0, .ref b), (1, .ref (A 0)), (2, .ref (A2 0))]) hx hb dL_law_836 hl (k := 3) rfl rfl (by decide) rfl (fun ls hl => ?_)
                                                        refine lv_goto (tgt := 18) hx hb dL_law_839 (by decide) ?_
                                                        exact ih18 ((v18.1 + 5), t202.2, t204.2) h _ _ hW _ (lv_sub hl [1, 2, 3, 0] rfl)
                                                      · replace h := q_f e206 h
                                                        refine lv_iconst (v := 0) hx hb dL_law_795 (by decide) ?_
                                                        exact absurd h (by decide)
                                                    · replace h := q_f e201 h
                                                      by_cases e207 : ((xs (v18.1).toNatClampNeg) &&& 31) = 21
                                                      · replace h := q_t e207 h
                                                        have tb := tb_in e207 (lo := 0) (hi := 23) (offs := #[112, 155, 198, 241, 274, 307, 340, 363, 386, 419, 462, 505, 558, 581, 624, 657, 670, 703, 726, 739, 752, 765, 778, 791]) (off := 765) (by decide)
                                                        refine lv_tableIn (tgt := 797) hx hb dL_law_32 tb.1 tb.2.1 tb.2.2 (by decide) ?_
                                                        refine lv_aload_n hx hb dL_law_797 rfl (lv_at hl 1 rfl) ?_
                                                        obtain ⟨t208, h209, h⟩ := q_b h
                                                        refine r_cVi C hW (nA := 0) (As := []) (rest := []) (c_X5_undo l g A 0 v18.2.1 _ _ h209) gL_law_X5_undo rfl ⟨rfl, wo_X5_undo⟩ (rmk hR rfl rfl) rfl rfl rfl rfl hl.1 (Nat.le_of_ble_eq_true rfl) hcs dL_law_798 (n := 2) (is := [0]) (rs := [1]) (bs' := [wX5 g A 0 t208.2, wX6 g A2 0 v18.2.2]) rfl rfl pm_40 rfl rfl rfl (fun H locs hW => ?_)
                                                        refine lv_aload_n hx hb dL_law_801 rfl (lv_at hl 2 rfl) ?_
                                                        obtain ⟨t210, h211, h⟩ := q_b h
                                                        refine r_cVi C hW (nA := 0) (As := []) (rest := [.int t208.1]) (c_X6_undo l g A2 0 v18.2.2 _ _ h211) gL_law_X6_undo rfl ⟨rfl, wo_X6_undo⟩ (rmk hR rfl rfl) rfl rfl rfl rfl hl.1 (Nat.le_of_ble_eq_true rfl) hcs dL_law_802 (n := 2) (is := [1]) (rs := [0]) (bs' := [wX5 g A 0 t208.2, wX6 g A2 0 t210.2]) rfl rfl pm_41 rfl rfl rfl (fun H locs hW => ?_)
                                                        refine lv_icmp_eq (tgt := 836) hx hb dL_law_805 (by decide) (fun e212 => ?_) (fun e212 => ?_)
                                                        · replace h := q_t e212 h
                                                          refine lv_iinc (v := (v18.1 + 5)) (lv' := [(3, .int (v18.1 + 5)), (0, .ref b), (1, .ref (A 0)), (2, .ref (A2 0))]) hx hb dL_law_836 hl (k := 3) rfl rfl (by decide) rfl (fun ls hl => ?_)
                                                          refine lv_goto (tgt := 18) hx hb dL_law_839 (by decide) ?_
                                                          exact ih18 ((v18.1 + 5), t208.2, t210.2) h _ _ hW _ (lv_sub hl [1, 2, 3, 0] rfl)
                                                        · replace h := q_f e212 h
                                                          refine lv_iconst (v := 0) hx hb dL_law_808 (by decide) ?_
                                                          exact absurd h (by decide)
                                                      · replace h := q_f e207 h
                                                        by_cases e213 : ((xs (v18.1).toNatClampNeg) &&& 31) = 22
                                                        · replace h := q_t e213 h
                                                          have tb := tb_in e213 (lo := 0) (hi := 23) (offs := #[112, 155, 198, 241, 274, 307, 340, 363, 386, 419, 462, 505, 558, 581, 624, 657, 670, 703, 726, 739, 752, 765, 778, 791]) (off := 778) (by decide)
                                                          refine lv_tableIn (tgt := 810) hx hb dL_law_32 tb.1 tb.2.1 tb.2.2 (by decide) ?_
                                                          refine lv_aload_n hx hb dL_law_810 rfl (lv_at hl 1 rfl) ?_
                                                          obtain ⟨t214, h215, h⟩ := q_b h
                                                          refine r_cVi C hW (nA := 0) (As := []) (rest := []) (c_X5_save l g A 0 v18.2.1 _ _ h215) gL_law_X5_save rfl ⟨rfl, wo_X5_save⟩ (rmk hR rfl rfl) rfl rfl rfl rfl hl.1 (Nat.le_of_ble_eq_true rfl) hcs dL_law_811 (n := 2) (is := [0]) (rs := [1]) (bs' := [wX5 g A 0 t214.2, wX6 g A2 0 v18.2.2]) rfl rfl pm_40 rfl rfl rfl (fun H locs hW => ?_)
                                                          refine lv_aload_n hx hb dL_law_814 rfl (lv_at hl 2 rfl) ?_
                                                          obtain ⟨t216, h217, h⟩ := q_b h
                                                          refine r_cVi C hW (nA := 0) (As := []) (rest := [.int t214.1]) (c_X6_save l g A2 0 v18.2.2 _ _ h217) gL_law_X6_save rfl ⟨rfl, wo_X6_save⟩ (rmk hR rfl rfl) rfl rfl rfl rfl hl.1 (Nat.le_of_ble_eq_true rfl) hcs dL_law_815 (n := 2) (is := [1]) (rs := [0]) (bs' := [wX5 g A 0 t214.2, wX6 g A2 0 t216.2]) rfl rfl pm_41 rfl rfl rfl (fun H locs hW => ?_)
                                                          refine lv_icmp_eq (tgt := 836) hx hb dL_law_818 (by decide) (fun e218 => ?_) (fun e218 => ?_)
                                                          · replace h := q_t e218 h
                                                            refine lv_iinc (v := (v18.1 + 5)) (lv' := [(3, .int (v18.1 + 5)), (0, .ref b), (1, .ref (A 0)), (2, .ref (A2 0))]) hx hb dL_law_836 hl (k := 3) rfl rfl (by decide) rfl (fun ls hl => ?_)
                                                            refine lv_goto (tgt := 18) hx hb dL_law_839 (by decide) ?_
                                                            exact ih18 ((v18.1 + 5), t214.2, t216.2) h _ _ hW _ (lv_sub hl [1, 2, 3, 0] rfl)
                                                          · replace h := q_f e218 h
                                                            refine lv_iconst (v := 0) hx hb dL_law_821 (by decide) ?_
                                                            exact absurd h (by decide)
                                                        · replace h := q_f e213 h
                                                          by_cases e219 : ((xs (v18.1).toNatClampNeg) &&& 31) = 23
                                                          · replace h := q_t e219 h
                                                            have tb := tb_in e219 (lo := 0) (hi := 23) (offs := #[112, 155, 198, 241, 274, 307, 340, 363, 386, 419, 462, 505, 558, 581, 624, 657, 670, 703, 726, 739, 752, 765, 778, 791]) (off := 791) (by decide)
                                                            refine lv_tableIn (tgt := 823) hx hb dL_law_32 tb.1 tb.2.1 tb.2.2 (by decide) ?_
                                                            refine lv_aload_n hx hb dL_law_823 rfl (lv_at hl 1 rfl) ?_
                                                            obtain ⟨t220, h221, h⟩ := q_b h
                                                            refine r_cVi C hW (nA := 0) (As := []) (rest := []) (c_X5_restore l g A 0 v18.2.1 _ _ h221) gL_law_X5_restore rfl ⟨rfl, wo_X5_restore⟩ (rmk hR rfl rfl) rfl rfl rfl rfl hl.1 (Nat.le_of_ble_eq_true rfl) hcs dL_law_824 (n := 2) (is := [0]) (rs := [1]) (bs' := [wX5 g A 0 t220.2, wX6 g A2 0 v18.2.2]) rfl rfl pm_40 rfl rfl rfl (fun H locs hW => ?_)
                                                            refine lv_aload_n hx hb dL_law_827 rfl (lv_at hl 2 rfl) ?_
                                                            obtain ⟨t222, h223, h⟩ := q_b h
                                                            refine r_cVi C hW (nA := 0) (As := []) (rest := [.int t220.1]) (c_X6_restore l g A2 0 v18.2.2 _ _ h223) gL_law_X6_restore rfl ⟨rfl, wo_X6_restore⟩ (rmk hR rfl rfl) rfl rfl rfl rfl hl.1 (Nat.le_of_ble_eq_true rfl) hcs dL_law_828 (n := 2) (is := [1]) (rs := [0]) (bs' := [wX5 g A 0 t220.2, wX6 g A2 0 t222.2]) rfl rfl pm_41 rfl rfl rfl (fun H locs hW => ?_)
                                                            refine lv_icmp_eq (tgt := 836) hx hb dL_law_831 (by decide) (fun e224 => ?_) (fun e224 => ?_)
                                                            · replace h := q_t e224 h
                                                              refine lv_iinc (v := (v18.1 + 5)) (lv' := [(3, .int (v18.1 + 5)), (0, .ref b), (1, .ref (A 0)), (2, .ref (A2 0))]) hx hb dL_law_836 hl (k := 3) rfl rfl (by decide) rfl (fun ls hl => ?_)
                                                              refine lv_goto (tgt := 18) hx hb dL_law_839 (by decide) ?_
                                                              exact ih18 ((v18.1 + 5), t220.2, t222.2) h _ _ hW _ (lv_sub hl [1, 2, 3, 0] rfl)
                                                            · replace h := q_f e224 h
                                                              refine lv_iconst (v := 0) hx hb dL_law_834 (by decide) ?_
                                                              exact absurd h (by decide)
                                                          · replace h := q_f e219 h
                                                            cases h
  exact L18 3000 (0, x, y) h _ _ hW _ (lv_sub hl [0, 1, 2, 3] rfl)
