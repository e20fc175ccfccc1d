def f_L_road_l392 (y : TV48s) (z6 : TV32s) (z8 : TV10s) (v18 : Int32 × Int32 × Int32 × Int32 × Int32) (v300 : Int32 × Int32 × Int32) (k392 : (Int32 × TX5s) → Option (Int32 × TX5s)) (v392 : Int32 × TX5s) : Option (Int32 × TX5s) :=
if 6 ≤ v392.1 then (
(f_X5_total v392.2 0).bind fun t4 =>
if t4 = v18.1 then (
(f_X5_total v392.2 1).bind fun t7 =>
if t7 = v18.2.1 then (
(f_X5_total v392.2 2).bind fun t10 =>
if t10 = v300.1 then (
(f_X5_total v392.2 3).bind fun t13 =>
if t13 = v18.2.2.1 then (
(f_X5_total v392.2 4).bind fun t16 =>
if (5 : Int32) < 0 ∨ 10 ≤ (5 : Int32).toNatClampNeg then none else
if t16 = (z8 (5 : Int32).toNatClampNeg) then (
(f_X5_total v392.2 5).bind fun t20 =>
if (6 : Int32) < 0 ∨ 10 ≤ (6 : Int32).toNatClampNeg then none else
if t20 = (z8 (6 : Int32).toNatClampNeg) then (
(f_X5_total v392.2 6).bind fun t24 =>
if (7 : Int32) < 0 ∨ 10 ≤ (7 : Int32).toNatClampNeg then none else
if t24 = (z8 (7 : Int32).toNatClampNeg) then (
(f_X5_total v392.2 7).bind fun t28 =>
if (8 : Int32) < 0 ∨ 10 ≤ (8 : Int32).toNatClampNeg then none else
if t28 = (z8 (8 : Int32).toNatClampNeg) then (
(f_X5_total v392.2 8).bind fun t32 =>
if (9 : Int32) < 0 ∨ 10 ≤ (9 : Int32).toNatClampNeg then none else
if t32 = (z8 (9 : Int32).toNatClampNeg) then (
(f_X5_total v392.2 9).bind fun t36 =>
if t36 = v300.2.1 then (
(f_X5_total v392.2 10).bind fun t39 =>
if (2 : Int32) < 0 ∨ 10 ≤ (2 : Int32).toNatClampNeg then none else
if t39 = (z8 (2 : Int32).toNatClampNeg) then (
(f_X5_total v392.2 11).bind fun t43 =>
if (3 : Int32) < 0 ∨ 10 ≤ (3 : Int32).toNatClampNeg then none else
if t43 = (z8 (3 : Int32).toNatClampNeg) then (
(f_X5_total v392.2 12).bind fun t47 =>
if (4 : Int32) < 0 ∨ 10 ≤ (4 : Int32).toNatClampNeg then none else
if t47 = (z8 (4 : Int32).toNatClampNeg) then (
(f_X5_total v392.2 13).bind fun t51 =>
if (0 : Int32) < 0 ∨ 10 ≤ (0 : Int32).toNatClampNeg then none else
if t51 = (z8 (0 : Int32).toNatClampNeg) then (
(f_X5_total v392.2 14).bind fun t55 =>
if (1 : Int32) < 0 ∨ 10 ≤ (1 : Int32).toNatClampNeg then none else
if t55 = (z8 (1 : Int32).toNatClampNeg) then (
some (1, v392.2))
else (
some (0, v392.2)))
else (
some (0, v392.2)))
else (
some (0, v392.2)))
else (
some (0, v392.2)))
else (
some (0, v392.2)))
else (
some (0, v392.2)))
else (
some (0, v392.2)))
else (
some (0, v392.2)))
else (
some (0, v392.2)))
else (
some (0, v392.2)))
else (
some (0, v392.2)))
else (
some (0, v392.2)))
else (
some (0, v392.2)))
else (
some (0, v392.2)))
else (
some (0, v392.2)))
else (
(f_X5_fewestChanges v392.2 (v392.1 / 3) (v392.1 - v392.1 / 3 * 3)).bind fun t61 =>
(f_L_drive y z6 (v392.1 / 3) (v392.1 - v392.1 / 3 * 3)).bind fun t65 =>
if t61.1 = t65 then (
k392 ((v392.1 + 1), t61.2))
else (
some (0, t61.2)))
def f_L_road_j322 (x : TX5s) (z6 : TV32s) (z7 : TV32s) (k300 : (Int32 × Int32 × Int32) → Option (Int32 × TX5s)) (v300 : Int32 × Int32 × Int32) (w322 : Int32) : Option (Int32 × TX5s) :=
if v300.2.2 < 0 ∨ 32 ≤ (v300.2.2).toNatClampNeg then none else
(f_X5_line x (v300.2.2 / 16) (v300.2.2 - v300.2.2 / 16 * 16) 0).bind fun t72 =>
if v300.2.2 < 0 ∨ 32 ≤ (v300.2.2).toNatClampNeg then none else
if t72 = (z6 (v300.2.2).toNatClampNeg) then (
(f_X5_line x (v300.2.2 / 16) (v300.2.2 - v300.2.2 / 16 * 16) 1).bind fun t78 =>
if v300.2.2 < 0 ∨ 32 ≤ (v300.2.2).toNatClampNeg then none else
if t78 = (z7 (v300.2.2).toNatClampNeg) then (
k300 ((v300.1 + w322), (v300.2.1 + (z7 (v300.2.2).toNatClampNeg)), (v300.2.2 + 1)))
else (
some (0, x)))
else (
some (0, x))
def f_L_road_l300 (x : TX5s) (y : TV48s) (z6 : TV32s) (z7 : TV32s) (z8 : TV10s) (v18 : Int32 × Int32 × Int32 × Int32 × Int32) (k300 : (Int32 × Int32 × Int32) → Option (Int32 × TX5s)) (v300 : Int32 × Int32 × Int32) : Option (Int32 × TX5s) :=
if 32 ≤ v300.2.2 then (
lpN (f_L_road_l392 y z6 z8 v18 v300) 7 (0, x))
else (
if v300.2.2 < 0 ∨ 32 ≤ (v300.2.2).toNatClampNeg then none else
if (z6 (v300.2.2).toNatClampNeg) ≤ 0 then (
f_L_road_j322 x z6 z7 k300 v300 0)
else (
f_L_road_j322 x z6 z7 k300 v300 1))
def f_L_road_j286 (x : TX5s) (z3 : TV48s) (z5 : TV48s) (k18 : (Int32 × Int32 × Int32 × Int32 × Int32) → Option (Int32 × TX5s)) (v18 : Int32 × Int32 × Int32 × Int32 × Int32) (w53 : Int32) (w70 : Int32) (w93 : Int32) (t117 : Int32) (w286 : Int32) : Option (Int32 × TX5s) :=
if t117 = w286 then (
k18 ((v18.1 + w53), (v18.2.1 + w70), (v18.2.2.1 + w93), (v18.2.2.2.1 + ((z3 (v18.2.2.2.2).toNatClampNeg) + (z5 (v18.2.2.2.2).toNatClampNeg))), (v18.2.2.2.2 + 1)))
else (
some (0, x))
def f_L_road_j256 (x : TX5s) (y : TV48s) (z3 : TV48s) (z5 : TV48s) (k18 : (Int32 × Int32 × Int32 × Int32 × Int32) → Option (Int32 × TX5s)) (v18 : Int32 × Int32 × Int32 × Int32 × Int32) (w53 : Int32) (w70 : Int32) (w93 : Int32) (t112 : Int32) (w256 : Int32) : Option (Int32 × TX5s) :=
if t112 = w256 then (
(f_X5_cell x (v18.2.2.2.2 / 16) (v18.2.2.2.2 - v18.2.2.2.2 / 16 * 16) 6).bind fun t117 =>
(f_L_free y (v18.2.2.2.2 / 16) (v18.2.2.2.2 - v18.2.2.2.2 / 16 * 16) 1).bind fun t119 =>
if t119 = 0 then (
f_L_road_j286 x z3 z5 k18 v18 w53 w70 w93 t117 0)
else (
f_L_road_j286 x z3 z5 k18 v18 w53 w70 w93 t117 1))
else (
some (0, x))
def f_L_road_j227 (x : TX5s) (y : TV48s) (z3 : TV48s) (z5 : TV48s) (k18 : (Int32 × Int32 × Int32 × Int32 × Int32) → Option (Int32 × TX5s)) (v18 : Int32 × Int32 × Int32 × Int32 × Int32) (w53 : Int32) (w70 : Int32) (w93 : Int32) (t107 : Int32) (w227 : Int32) : Option (Int32 × TX5s) :=
if t107 = w227 then (
(f_X5_cell x (v18.2.2.2.2 / 16) (v18.2.2.2.2 - v18.2.2.2.2 / 16 * 16) 5).bind fun t112 =>
(f_L_free y (v18.2.2.2.2 / 16) (v18.2.2.2.2 - v18.2.2.2.2 / 16 * 16) 0).bind fun t114 =>
if t114 = 0 then (
f_L_road_j256 x y z3 z5 k18 v18 w53 w70 w93 t112 0)
else (
f_L_road_j256 x y z3 z5 k18 v18 w53 w70 w93 t112 1))
else (
some (0, x))
def f_L_road_j180 (x : TX5s) (y : TV48s) (z3 : TV48s) (z4 : TV48s) (z5 : TV48s) (z8 : TV10s) (k18 : (Int32 × Int32 × Int32 × Int32 × Int32) → Option (Int32 × TX5s)) (v18 : Int32 × Int32 × Int32 × Int32 × Int32) (w53 : Int32) (w70 : Int32) (w93 : Int32) (t99 : Int32) (w180 : Int32) : Option (Int32 × TX5s) :=
if t99 = w180 then (
(f_X5_cell x (v18.2.2.2.2 / 16) (v18.2.2.2.2 - v18.2.2.2.2 / 16 * 16) 3).bind fun t103 =>
if v18.2.2.2.2 < 0 ∨ 48 ≤ (v18.2.2.2.2).toNatClampNeg then none else
if t103 = (z5 (v18.2.2.2.2).toNatClampNeg) then (
(f_X5_cell x (v18.2.2.2.2 / 16) (v18.2.2.2.2 - v18.2.2.2.2 / 16 * 16) 4).bind fun t107 =>
(f_L_read z4 z5 z8 v18.2.2.2.2).bind fun t109 =>
if t109 = 0 then (
f_L_road_j227 x y z3 z5 k18 v18 w53 w70 w93 t107 0)
else (
f_L_road_j227 x y z3 z5 k18 v18 w53 w70 w93 t107 1))
else (
some (0, x)))
else (
some (0, x))
def f_L_road_j136 (x : TX5s) (y : TV48s) (z3 : TV48s) (z4 : TV48s) (z5 : TV48s) (z8 : TV10s) (k18 : (Int32 × Int32 × Int32 × Int32 × Int32) → Option (Int32 × TX5s)) (v18 : Int32 × Int32 × Int32 × Int32 × Int32) (w53 : Int32) (w70 : Int32) (w93 : Int32) (t91 : Int32) (w136 : Int32) : Option (Int32 × TX5s) :=
if t91 = w136 then (
(f_X5_cell x (v18.2.2.2.2 / 16) (v18.2.2.2.2 - v18.2.2.2.2 / 16 * 16) 1).bind fun t95 =>
if v18.2.2.2.2 < 0 ∨ 48 ≤ (v18.2.2.2.2).toNatClampNeg then none else
if t95 = (z3 (v18.2.2.2.2).toNatClampNeg) then (
(f_X5_cell x (v18.2.2.2.2 / 16) (v18.2.2.2.2 - v18.2.2.2.2 / 16 * 16) 2).bind fun t99 =>
if v18.2.2.2.2 < 0 ∨ 48 ≤ (v18.2.2.2.2).toNatClampNeg then none else
if 0 ≤ (z4 (v18.2.2.2.2).toNatClampNeg) then (
if v18.2.2.2.2 < 0 ∨ 48 ≤ (v18.2.2.2.2).toNatClampNeg then none else
f_L_road_j180 x y z3 z4 z5 z8 k18 v18 w53 w70 w93 t99 (z4 (v18.2.2.2.2).toNatClampNeg))
else (
f_L_road_j180 x y z3 z4 z5 z8 k18 v18 w53 w70 w93 t99 (-6)))
else (
some (0, x)))
else (
some (0, x))
def f_L_road_j93 (x : TX5s) (y : TV48s) (z3 : TV48s) (z4 : TV48s) (z5 : TV48s) (z8 : TV10s) (k18 : (Int32 × Int32 × Int32 × Int32 × Int32) → Option (Int32 × TX5s)) (v18 : Int32 × Int32 × Int32 × Int32 × Int32) (w53 : Int32) (w70 : Int32) (w93 : Int32) : Option (Int32 × TX5s) :=
if v18.2.2.2.2 < 0 ∨ 48 ≤ (v18.2.2.2.2).toNatClampNeg then none else
if v18.2.2.2.2 < 0 ∨ 48 ≤ (v18.2.2.2.2).toNatClampNeg then none else
(f_X5_cell x (v18.2.2.2.2 / 16) (v18.2.2.2.2 - v18.2.2.2.2 / 16 * 16) 0).bind fun t91 =>
if v18.2.2.2.2 < 0 ∨ 48 ≤ (v18.2.2.2.2).toNatClampNeg then none else
if 0 ≤ (y (v18.2.2.2.2).toNatClampNeg) then (
if v18.2.2.2.2 < 0 ∨ 48 ≤ (v18.2.2.2.2).toNatClampNeg then none else
f_L_road_j136 x y z3 z4 z5 z8 k18 v18 w53 w70 w93 t91 (y (v18.2.2.2.2).toNatClampNeg))
else (
f_L_road_j136 x y z3 z4 z5 z8 k18 v18 w53 w70 w93 t91 (-6))
def f_L_road_j70 (x : TX5s) (y : TV48s) (z3 : TV48s) (z4 : TV48s) (z5 : TV48s) (z8 : TV10s) (k18 : (Int32 × Int32 × Int32 × Int32 × Int32) → Option (Int32 × TX5s)) (v18 : Int32 × Int32 × Int32 × Int32 × Int32) (w53 : Int32) (w70 : Int32) : Option (Int32 × TX5s) :=
(f_L_read z4 z5 z8 v18.2.2.2.2).bind fun t87 =>
if t87 = 0 then (
f_L_road_j93 x y z3 z4 z5 z8 k18 v18 w53 w70 0)
else (
f_L_road_j93 x y z3 z4 z5 z8 k18 v18 w53 w70 1)
def f_L_road_j53 (x : TX5s) (y : TV48s) (z3 : TV48s) (z4 : TV48s) (z5 : TV48s) (z8 : TV10s) (k18 : (Int32 × Int32 × Int32 × Int32 × Int32) → Option (Int32 × TX5s)) (v18 : Int32 × Int32 × Int32 × Int32 × Int32) (w53 : Int32) : Option (Int32 × TX5s) :=
if v18.2.2.2.2 < 0 ∨ 48 ≤ (v18.2.2.2.2).toNatClampNeg then none else
if (z4 (v18.2.2.2.2).toNatClampNeg) < 0 then (
f_L_road_j70 x y z3 z4 z5 z8 k18 v18 w53 0)
else (
f_L_road_j70 x y z3 z4 z5 z8 k18 v18 w53 1)
def f_L_road_l18 (x : TX5s) (y : TV48s) (z3 : TV48s) (z4 : TV48s) (z5 : TV48s) (z6 : TV32s) (z7 : TV32s) (z8 : TV10s) (k18 : (Int32 × Int32 × Int32 × Int32 × Int32) → Option (Int32 × TX5s)) (v18 : Int32 × Int32 × Int32 × Int32 × Int32) : Option (Int32 × TX5s) :=
if 48 ≤ v18.2.2.2.2 then (
lpN (f_L_road_l300 x y z6 z7 z8 v18) 3000 (0, v18.2.2.2.1, 0))
else (
if v18.2.2.2.2 < 0 ∨ 48 ≤ (v18.2.2.2.2).toNatClampNeg then none else
if (y (v18.2.2.2.2).toNatClampNeg) < 0 then (
f_L_road_j53 x y z3 z4 z5 z8 k18 v18 0)
else (
f_L_road_j53 x y z3 z4 z5 z8 k18 v18 1))
def f_L_road (x : TX5s) (y : TV48s) (z3 : TV48s) (z4 : TV48s) (z5 : TV48s) (z6 : TV32s) (z7 : TV32s) (z8 : TV10s) : Option (Int32 × TX5s) :=
lpN (f_L_road_l18 x y z3 z4 z5 z6 z7 z8) 3000 (0, 0, 0, 0, 0)
theorem wo_L_road : wordsOk yL_road 8 := by decide +kernel
set_option maxHeartbeats 4000000 in
set_option maxRecDepth 100000 in
theorem c_L_road (l : Launch) (g : GG) (A : Nat → Nat) (b : Nat) (A2 : Nat → Nat) (b2 : Nat) (A3 : Nat → Nat) (b3 : Nat) (A4 : Nat → Nat) (b4 : Nat) (A5 : Nat → Nat) (b5 : Nat) (A6 : Nat → Nat) (b6 : Nat) (A7 : Nat → Nat) (b7 : Nat) (A8 : Nat → Nat) (b8 : Nat) (x : TX5s) (y : TV48s) (z3 : TV48s) (z4 : TV48s) (z5 : TV48s) (z6 : TV32s) (z7 : TV32s) (z8 : TV10s) (r : Int32) (x' : TX5s) (h : f_L_road x y z3 z4 z5 z6 z7 z8 = some (r, x')) : CIm l yL_road wsL_road 7 169 7 336 g [.ref (A b), .ref (A2 b2), .ref (A3 b3), .ref (A4 b4), .ref (A5 b5), .ref (A6 b6), .ref (A7 b7), .ref (A8 b8)] (wX5 g A b x ++ (wV48 g A2 b2 y ++ (wV48 g A3 b3 z3 ++ (wV48 g A4 b4 z4 ++ (wV48 g A5 b5 z5 ++ (wV32 g A6 b6 z6 ++ (wV32 g A7 b7 z7 ++ (wV10 g A8 b8 z8)))))))) r (wX5 g A b x' ++ (wV48 g A2 b2 y ++ (wV48 g A3 b3 z3 ++ (wV48 g A4 b4 z4 ++ (wV48 g A5 b5 z5 ++ (wV32 g A6 b6 z6 ++ (wV32 g A7 b7 z7 ++ (wV10 g A8 b8 z8)))))))) := by
  refine CIm.mk (own := RL) (by decide) rfl rfl (Nat.le_of_ble_eq_true rfl) ?_
  intro p e R s m args below meth c Z Q C E hR hz H hW ls hl
  have hx := C.1.1
  have hb := C.1.2.1
  have hown := C.1.2.2.2.1
  replace hW : WdG g Z s.heap H [] [wX5 g A b x, [(A2 b2, .inl (gI g, 48, .inl y))], [(A3 b3, .inl (gI g, 48, .inl z3))], [(A4 b4, .inl (gI g, 48, .inl z4))], [(A5 b5, .inl (gI g, 48, .inl z5))], [(A6 b6, .inl (gI g, 32, .inl z6))], [(A7 b7, .inl (gI g, 32, .inl z7))], [(A8 b8, .inl (gI g, 10, .inl z8))]] := hW.re ((List.append_nil _).trans rfl)
  replace hl : lv_has ls 16 [(0, .ref (A b)), (1, .ref (A2 b2)), (2, .ref (A3 b3)), (3, .ref (A4 b4)), (4, .ref (A5 b5)), (5, .ref (A6 b6)), (6, .ref (A7 b7)), (7, .ref (A8 b8))] := hl
  unfold f_L_road at h
  refine lv_iconst (v := 0) hx hb dL_road_0 (by decide) ?_
  refine lv_istore (lv' := [(8, .int 0), (0, .ref (A b)), (1, .ref (A2 b2)), (2, .ref (A3 b3)), (3, .ref (A4 b4)), (4, .ref (A5 b5)), (5, .ref (A6 b6)), (6, .ref (A7 b7)), (7, .ref (A8 b8))]) hx hb dL_road_1 hl (by decide) rfl (fun ls hl => ?_)
  refine lv_iconst (v := 0) hx hb dL_road_3 (by decide) ?_
  refine lv_istore (lv' := [(9, .int 0), (8, .int 0), (0, .ref (A b)), (1, .ref (A2 b2)), (2, .ref (A3 b3)), (3, .ref (A4 b4)), (4, .ref (A5 b5)), (5, .ref (A6 b6)), (6, .ref (A7 b7)), (7, .ref (A8 b8))]) hx hb dL_road_4 hl (by decide) rfl (fun ls hl => ?_)
  refine lv_iconst (v := 0) hx hb dL_road_6 (by decide) ?_
  refine lv_istore (lv' := [(10, .int 0), (9, .int 0), (8, .int 0), (0, .ref (A b)), (1, .ref (A2 b2)), (2, .ref (A3 b3)), (3, .ref (A4 b4)), (4, .ref (A5 b5)), (5, .ref (A6 b6)), (6, .ref (A7 b7)), (7, .ref (A8 b8))]) hx hb dL_road_7 hl (by decide) rfl (fun ls hl => ?_)
  refine lv_iconst (v := 0) hx hb dL_road_9 (by decide) ?_
  refine lv_istore (lv' := [(11, .int 0), (10, .int 0), (9, .int 0), (8, .int 0), (0, .ref (A b)), (1, .ref (A2 b2)), (2, .ref (A3 b3)), (3, .ref (A4 b4)), (4, .ref (A5 b5)), (5, .ref (A6 b6)), (6, .ref (A7 b7)), (7, .ref (A8 b8))]) hx hb dL_road_10 hl (by decide) rfl (fun ls hl => ?_)
  refine lv_iconst (v := 0) hx hb dL_road_12 (by decide) ?_
  refine lv_istore (lv' := [(12, .int 0), (11, .int 0), (10, .int 0), (9, .int 0), (8, .int 0), (0, .ref (A b)), (1, .ref (A2 b2)), (2, .ref (A3 b3)), (3, .ref (A4 b4)), (4, .ref (A5 b5)), (5, .ref (A6 b6)), (6, .ref (A7 b7)), (7, .ref (A8 b8))]) hx hb dL_road_13 hl (by decide) rfl (fun ls hl => ?_)
  refine lv_iconst (v := 0) hx hb dL_road_15 (by decide) ?_
  refine lv_istore (lv' := [(13, .int 0), (12, .int 0), (11, .int 0), (10, .int 0), (9, .int 0), (8, .int 0), (0, .ref (A b)), (1, .ref (A2 b2)), (2, .ref (A3 b3)), (3, .ref (A4 b4)), (4, .ref (A5 b5)), (5, .ref (A6 b6)), (6, .ref (A7 b7)), (7, .ref (A8 b8))]) hx hb dL_road_16 hl (by decide) rfl (fun ls hl => ?_)
  have L18 : ∀ n18 : Nat, ∀ (v18 : Int32 × Int32 × Int32 × Int32 × Int32), lpN (f_L_road_l18 x y z3 z4 z5 z6 z7 z8) n18 v18 = some (r, x') → ∀ (H : Heap) (locs : List Loc), WdG g Z s.heap H locs [wX5 g A b x, [(A2 b2, .inl (gI g, 48, .inl y))], [(A3 b3, .inl (gI g, 48, .inl z3))], [(A4 b4, .inl (gI g, 48, .inl z4))], [(A5 b5, .inl (gI g, 48, .inl z5))], [(A6 b6, .inl (gI g, 32, .inl z6))], [(A7 b7, .inl (gI g, 32, .inl z7))], [(A8 b8, .inl (gI g, 10, .inl z8))]] → ∀ ls : Array Slot, lv_has ls 16 [(0, .ref (A b)), (1, .ref (A2 b2)), (2, .ref (A3 b3)), (3, .ref (A4 b4)), (4, .ref (A5 b5)), (5, .ref (A6 b6)), (6, .ref (A7 b7)), (7, .ref (A8 b8)), (8, .int v18.1), (9, .int v18.2.1), (10, .int 0), (11, .int v18.2.2.1), (12, .int v18.2.2.2.1), (13, .int v18.2.2.2.2)] → W p l e R s m args below meth c H locs 0 0 Q (F0 m 18 ls []) := by
    intro n18
    induction n18 with
    | zero => intro v18 h; exact absurd (show none = some (r, x') from h) (fun h => by cases h)
    | succ n18 ih18 =>
      intro v18 h H locs hW ls hl
      replace h : f_L_road_l18 x y z3 z4 z5 z6 z7 z8 (lpN (f_L_road_l18 x y z3 z4 z5 z6 z7 z8) n18) v18 = some (r, x') := h
      unfold f_L_road_l18 at h
      refine lv_iload hx hb dL_road_18 (lv_at hl 13 rfl) ?_
      refine lv_bipush (v := 48) hx hb dL_road_20 (by decide) ?_
      refine lv_icmp_ge (tgt := 297) hx hb dL_road_22 (by decide) (fun e1 => ?_) (fun e1 => ?_)
      · replace h := q_t e1 h
        refine lv_iconst (v := 0) hx hb dL_road_297 (by decide) ?_
        refine lv_istore (lv' := [(13, .int 0), (0, .ref (A b)), (1, .ref (A2 b2)), (2, .ref (A3 b3)), (3, .ref (A4 b4)), (4, .ref (A5 b5)), (5, .ref (A6 b6)), (6, .ref (A7 b7)), (7, .ref (A8 b8)), (8, .int v18.1), (9, .int v18.2.1), (10, .int 0), (11, .int v18.2.2.1), (12, .int v18.2.2.2.1)]) hx hb dL_road_298 hl (by decide) rfl (fun ls hl => ?_)
        have L300 : ∀ n300 : Nat, ∀ (v300 : Int32 × Int32 × Int32), lpN (f_L_road_l300 x y z6 z7 z8 v18) n300 v300 = some (r, x') → ∀ (H : Heap) (locs : List Loc), WdG g Z s.heap H locs [wX5 g A b x, [(A2 b2, .inl (gI g, 48, .inl y))], [(A3 b3, .inl (gI g, 48, .inl z3))], [(A4 b4, .inl (gI g, 48, .inl z4))], [(A5 b5, .inl (gI g, 48, .inl z5))], [(A6 b6, .inl (gI g, 32, .inl z6))], [(A7 b7, .inl (gI g, 32, .inl z7))], [(A8 b8, .inl (gI g, 10, .inl z8))]] → ∀ ls : Array Slot, lv_has ls 16 [(0, .ref (A b)), (1, .ref (A2 b2)), (5, .ref (A6 b6)), (6, .ref (A7 b7)), (7, .ref (A8 b8)), (8, .int v18.1), (9, .int v18.2.1), (10, .int v300.1), (11, .int v18.2.2.1), (12, .int v300.2.1), (13, .int v300.2.2)] → W p l e R s m args below meth c H locs 0 0 Q (F0 m 300 ls []) := by
          intro n300
          induction n300 with
          | zero => intro v300 h; exact absurd (show none = some (r, x') from h) (fun h => by cases h)
          | succ n300 ih300 =>
            intro v300 h H locs hW ls hl
            replace h : f_L_road_l300 x y z6 z7 z8 v18 (lpN (f_L_road_l300 x y z6 z7 z8 v18) n300) v300 = some (r, x') := h
            unfold f_L_road_l300 at h
            refine lv_iload hx hb dL_road_300 (lv_at hl 10 rfl) ?_
            refine lv_bipush (v := 32) hx hb dL_road_302 (by decide) ?_
            refine lv_icmp_ge (tgt := 389) hx hb dL_road_304 (by decide) (fun e2 => ?_) (fun e2 => ?_)
            · replace h := q_t e2 h
              refine lv_iconst (v := 0) hx hb dL_road_389 (by decide) ?_
              refine lv_istore (lv' := [(13, .int 0), (0, .ref (A b)), (1, .ref (A2 b2)), (5, .ref (A6 b6)), (6, .ref (A7 b7)), (7, .ref (A8 b8)), (8, .int v18.1), (9, .int v18.2.1), (10, .int v300.1), (11, .int v18.2.2.1), (12, .int v300.2.1)]) hx hb dL_road_390 hl (by decide) rfl (fun ls hl => ?_)
              have L392 : ∀ n392 : Nat, ∀ kc ks : Nat, kc + n392 * 1 ≤ 7 → ks + n392 * 48 ≤ 336 → ∀ (v392 : Int32 × TX5s), lpN (f_L_road_l392 y z6 z8 v18 v300) n392 v392 = some (r, x') → ∀ (H : Heap) (locs : List Loc), WdG g Z s.heap H locs [wX5 g A b v392.2, [(A2 b2, .inl (gI g, 48, .inl y))], [(A3 b3, .inl (gI g, 48, .inl z3))], [(A4 b4, .inl (gI g, 48, .inl z4))], [(A5 b5, .inl (gI g, 48, .inl z5))], [(A6 b6, .inl (gI g, 32, .inl z6))], [(A7 b7, .inl (gI g, 32, .inl z7))], [(A8 b8, .inl (gI g, 10, .inl z8))]] → ∀ ls : Array Slot, lv_has ls 16 [(0, .ref (A b)), (1, .ref (A2 b2)), (5, .ref (A6 b6)), (7, .ref (A8 b8)), (8, .int v18.1), (9, .int v18.2.1), (10, .int v300.1), (11, .int v18.2.2.1), (12, .int v300.2.1), (13, .int v392.1)] → W p l e R s m args below meth c H locs kc ks Q (F0 m 392 ls []) := by
                intro n392
                induction n392 with
                | zero => intro kc ks hk1 hk2 v392 h; exact absurd (show none = some (r, x') from h) (fun h => by cases h)
                | succ n392 ih392 =>
                  intro kc ks hk1 hk2 v392 h H locs hW ls hl
                  replace h : f_L_road_l392 y z6 z8 v18 v300 (lpN (f_L_road_l392 y z6 z8 v18 v300) n392) v392 = some (r, x') := h
                  unfold f_L_road_l392 at h
                  refine lv_iload hx hb dL_road_392 (lv_at hl 9 rfl) ?_
                  refine lv_bipush (v := 6) hx hb dL_road_394 (by decide) ?_
                  refine lv_icmp_ge (tgt := 436) hx hb dL_road_396 (by decide) (fun e3 => ?_) (fun e3 => ?_)
                  · replace h := q_t e3 h
                    refine lv_aload_n hx hb dL_road_436 rfl (lv_at hl 0 rfl) ?_
                    refine lv_iconst (v := 0) hx hb dL_road_437 (by decide) ?_
                    obtain ⟨t4, h5, h⟩ := q_b h
                    refine r_cVi C hW (nA := 1) (As := [.int 0]) (rest := []) (c_X5_total l g A b v392.2 0 _ h5) gL_road_X5_total rfl ⟨rfl, wo_X5_total⟩ (rmk hR rfl rfl) rfl rfl rfl rfl hl.1 (Nat.le_of_ble_eq_true rfl) ⟨by rw [hz.1]; omega, by rw [hz.2]; omega⟩ dL_road_438 (n := 8) (is := [0]) (rs := [1, 2, 3, 4, 5, 6, 7]) (bs' := [wX5 g A b v392.2, [(A2 b2, .inl (gI g, 48, .inl y))], [(A3 b3, .inl (gI g, 48, .inl z3))], [(A4 b4, .inl (gI g, 48, .inl z4))], [(A5 b5, .inl (gI g, 48, .inl z5))], [(A6 b6, .inl (gI g, 32, .inl z6))], [(A7 b7, .inl (gI g, 32, .inl z7))], [(A8 b8, .inl (gI g, 10, .inl z8))]]) rfl rfl pm_135268d1 (List.append_nil _) (List.append_nil _) rfl (fun H locs hW => ?_)
                    refine lv_iload hx hb dL_road_441 (lv_at hl 4 rfl) ?_
                    refine lv_icmp_ne (tgt := 623) hx hb dL_road_443 (by decide) (fun e6 => ?_) (fun e6 => ?_)
                    · replace h := q_f e6 h
                      refine lv_iconst (v := 0) hx hb dL_road_623 (by decide) ?_
                      cases h
                      refine W.widen (k := 7) (n := 336) (by omega) (by omega) ?_
                      exact E _ _ _ _ [wX5 g A b v392.2, [(A2 b2, .inl (gI g, 48, .inl y))], [(A3 b3, .inl (gI g, 48, .inl z3))], [(A4 b4, .inl (gI g, 48, .inl z4))], [(A5 b5, .inl (gI g, 48, .inl z5))], [(A6 b6, .inl (gI g, 32, .inl z6))], [(A7 b7, .inl (gI g, 32, .inl z7))], [(A8 b8, .inl (gI g, 10, .inl z8))]] (hW.cut (cs := []) rfl) rfl rfl dL_road_624
                    · replace h := q_t e6 h
                      refine lv_aload_n hx hb dL_road_446 rfl (lv_at hl 0 rfl) ?_
                      refine lv_iconst (v := 1) hx hb dL_road_447 (by decide) ?_
                      obtain ⟨t7, h8, h⟩ := q_b h
                      refine r_cVi C hW (nA := 1) (As := [.int 1]) (rest := []) (c_X5_total l g A b v392.2 1 _ h8) gL_road_X5_total rfl ⟨rfl, wo_X5_total⟩ (rmk hR rfl rfl) rfl rfl rfl rfl hl.1 (Nat.le_of_ble_eq_true rfl) ⟨by rw [hz.1]; omega, by rw [hz.2]; omega⟩ dL_road_448 (n := 8) (is := [0]) (rs := [1, 2, 3, 4, 5, 6, 7]) (bs' := [wX5 g A b v392.2, [(A2 b2, .inl (gI g, 48, .inl y))], [(A3 b3, .inl (gI g, 48, .inl z3))], [(A4 b4, .inl (gI g, 48, .inl z4))], [(A5 b5, .inl (gI g, 48, .inl z5))], [(A6 b6, .inl (gI g, 32, .inl z6))], [(A7 b7, .inl (gI g, 32, .inl z7))], [(A8 b8, .inl (gI g, 10, .inl z8))]]) rfl rfl pm_135268d1 (List.append_nil _) (List.append_nil _) rfl (fun H locs hW => ?_)
                      refine lv_iload hx hb dL_road_451 (lv_at hl 5 rfl) ?_
                      refine lv_icmp_ne (tgt := 623) hx hb dL_road_453 (by decide) (fun e9 => ?_) (fun e9 => ?_)
                      · replace h := q_f e9 h
                        refine lv_iconst (v := 0) hx hb dL_road_623 (by decide) ?_
                        cases h
                        refine W.widen (k := 7) (n := 336) (by omega) (by omega) ?_
                        exact E _ _ _ _ [wX5 g A b v392.2, [(A2 b2, .inl (gI g, 48, .inl y))], [(A3 b3, .inl (gI g, 48, .inl z3))], [(A4 b4, .inl (gI g, 48, .inl z4))], [(A5 b5, .inl (gI g, 48, .inl z5))], [(A6 b6, .inl (gI g, 32, .inl z6))], [(A7 b7, .inl (gI g, 32, .inl z7))], [(A8 b8, .inl (gI g, 10, .inl z8))]] (hW.cut (cs := []) rfl) rfl rfl dL_road_624
                      · replace h := q_t e9 h
                        refine lv_aload_n hx hb dL_road_456 rfl (lv_at hl 0 rfl) ?_
                        refine lv_iconst (v := 2) hx hb dL_road_457 (by decide) ?_
                        obtain ⟨t10, h11, h⟩ := q_b h
                        refine r_cVi C hW (nA := 1) (As := [.int 2]) (rest := []) (c_X5_total l g A b v392.2 2 _ h11) gL_road_X5_total rfl ⟨rfl, wo_X5_total⟩ (rmk hR rfl rfl) rfl rfl rfl rfl hl.1 (Nat.le_of_ble_eq_true rfl) ⟨by rw [hz.1]; omega, by rw [hz.2]; omega⟩ dL_road_458 (n := 8) (is := [0]) (rs := [1, 2, 3, 4, 5, 6, 7]) (bs' := [wX5 g A b v392.2, [(A2 b2, .inl (gI g, 48, .inl y))], [(A3 b3, .inl (gI g, 48, .inl z3))], [(A4 b4, .inl (gI g, 48, .inl z4))], [(A5 b5, .inl (gI g, 48, .inl z5))], [(A6 b6, .inl (gI g, 32, .inl z6))], [(A7 b7, .inl (gI g, 32, .inl z7))], [(A8 b8, .inl (gI g, 10, .inl z8))]]) rfl rfl pm_135268d1 (List.append_nil _) (List.append_nil _) rfl (fun H locs hW => ?_)
                        refine lv_iload hx hb dL_road_461 (lv_at hl 6 rfl) ?_
                        refine lv_icmp_ne (tgt := 623) hx hb dL_road_463 (by decide) (fun e12 => ?_) (fun e12 => ?_)
                        · replace h := q_f e12 h
                          refine lv_iconst (v := 0) hx hb dL_road_623 (by decide) ?_
                          cases h
                          refine W.widen (k := 7) (n := 336) (by omega) (by omega) ?_
                          exact E _ _ _ _ [wX5 g A b v392.2, [(A2 b2, .inl (gI g, 48, .inl y))], [(A3 b3, .inl (gI g, 48, .inl z3))], [(A4 b4, .inl (gI g, 48, .inl z4))], [(A5 b5, .inl (gI g, 48, .inl z5))], [(A6 b6, .inl (gI g, 32, .inl z6))], [(A7 b7, .inl (gI g, 32, .inl z7))], [(A8 b8, .inl (gI g, 10, .inl z8))]] (hW.cut (cs := []) rfl) rfl rfl dL_road_624
                        · replace h := q_t e12 h
                          refine lv_aload_n hx hb dL_road_466 rfl (lv_at hl 0 rfl) ?_
                          refine lv_iconst (v := 3) hx hb dL_road_467 (by decide) ?_
                          obtain ⟨t13, h14, h⟩ := q_b h
                          refine r_cVi C hW (nA := 1) (As := [.int 3]) (rest := []) (c_X5_total l g A b v392.2 3 _ h14) gL_road_X5_total rfl ⟨rfl, wo_X5_total⟩ (rmk hR rfl rfl) rfl rfl rfl rfl hl.1 (Nat.le_of_ble_eq_true rfl) ⟨by rw [hz.1]; omega, by rw [hz.2]; omega⟩ dL_road_468 (n := 8) (is := [0]) (rs := [1, 2, 3, 4, 5, 6, 7]) (bs' := [wX5 g A b v392.2, [(A2 b2, .inl (gI g, 48, .inl y))], [(A3 b3, .inl (gI g, 48, .inl z3))], [(A4 b4, .inl (gI g, 48, .inl z4))], [(A5 b5, .inl (gI g, 48, .inl z5))], [(A6 b6, .inl (gI g, 32, .inl z6))], [(A7 b7, .inl (gI g, 32, .inl z7))], [(A8 b8, .inl (gI g, 10, .inl z8))]]) rfl rfl pm_135268d1 (List.append_nil _) (List.append_nil _) rfl (fun H locs hW => ?_)
                          refine lv_iload hx hb dL_road_471 (lv_at hl 7 rfl) ?_
                          refine lv_icmp_ne (tgt := 623) hx hb dL_road_473 (by decide) (fun e15 => ?_) (fun e15 => ?_)
                          · replace h := q_f e15 h
                            refine lv_iconst (v := 0) hx hb dL_road_623 (by decide) ?_
                            cases h
                            refine W.widen (k := 7) (n := 336) (by omega) (by omega) ?_
                            exact E _ _ _ _ [wX5 g A b v392.2, [(A2 b2, .inl (gI g, 48, .inl y))], [(A3 b3, .inl (gI g, 48, .inl z3))], [(A4 b4, .inl (gI g, 48, .inl z4))], [(A5 b5, .inl (gI g, 48, .inl z5))], [(A6 b6, .inl (gI g, 32, .inl z6))], [(A7 b7, .inl (gI g, 32, .inl z7))], [(A8 b8, .inl (gI g, 10, .inl z8))]] (hW.cut (cs := []) rfl) rfl rfl dL_road_624
                          · replace h := q_t e15 h
                            refine lv_aload_n hx hb dL_road_476 rfl (lv_at hl 0 rfl) ?_
                            refine lv_iconst (v := 4) hx hb dL_road_477 (by decide) ?_
                            obtain ⟨t16, h17, h⟩ := q_b h
                            refine r_cVi C hW (nA := 1) (As := [.int 4]) (rest := []) (c_X5_total l g A b v392.2 4 _ h17) gL_road_X5_total rfl ⟨rfl, wo_X5_total⟩ (rmk hR rfl rfl) rfl rfl rfl rfl hl.1 (Nat.le_of_ble_eq_true rfl) ⟨by rw [hz.1]; omega, by rw [hz.2]; omega⟩ dL_road_478 (n := 8) (is := [0]) (rs := [1, 2, 3, 4, 5, 6, 7]) (bs' := [wX5 g A b v392.2, [(A2 b2, .inl (gI g, 48, .inl y))], [(A3 b3, .inl (gI g, 48, .inl z3))], [(A4 b4, .inl (gI g, 48, .inl z4))], [(A5 b5, .inl (gI g, 48, .inl z5))], [(A6 b6, .inl (gI g, 32, .inl z6))], [(A7 b7, .inl (gI g, 32, .inl z7))], [(A8 b8, .inl (gI g, 10, .inl z8))]]) rfl rfl pm_135268d1 (List.append_nil _) (List.append_nil _) rfl (fun H locs hW => ?_)
                            refine lv_aload hx hb dL_road_481 (lv_at hl 3 rfl) ?_
                            refine lv_iconst (v := 5) hx hb dL_road_483 (by decide) ?_
                            obtain ⟨g18, h⟩ := q_g h
                            refine r_iald C hW 7 0 rfl rfl g18 dL_road_484 ?_
                            refine lv_icmp_ne (tgt := 623) hx hb dL_road_485 (by decide) (fun e19 => ?_) (fun e19 => ?_)
                            · replace h := q_f e19 h
                              refine lv_iconst (v := 0) hx hb dL_road_623 (by decide) ?_
                              cases h
                              refine W.widen (k := 7) (n := 336) (by omega) (by omega) ?_
                              exact E _ _ _ _ [wX5 g A b v392.2, [(A2 b2, .inl (gI g, 48, .inl y))], [(A3 b3, .inl (gI g, 48, .inl z3))], [(A4 b4, .inl (gI g, 48, .inl z4))], [(A5 b5, .inl (gI g, 48, .inl z5))], [(A6 b6, .inl (gI g, 32, .inl z6))], [(A7 b7, .inl (gI g, 32, .inl z7))], [(A8 b8, .inl (gI g, 10, .inl z8))]] (hW.cut (cs := []) rfl) rfl rfl dL_road_624
                            · replace h := q_t e19 h
                              refine lv_aload_n hx hb dL_road_488 rfl (lv_at hl 0 rfl) ?_
                              refine lv_iconst (v := 5) hx hb dL_road_489 (by decide) ?_
                              obtain ⟨t20, h21, h⟩ := q_b h
                              refine r_cVi C hW (nA := 1) (As := [.int 5]) (rest := []) (c_X5_total l g A b v392.2 5 _ h21) gL_road_X5_total rfl ⟨rfl, wo_X5_total⟩ (rmk hR rfl rfl) rfl rfl rfl rfl hl.1 (Nat.le_of_ble_eq_true rfl) ⟨by rw [hz.1]; omega, by rw [hz.2]; omega⟩ dL_road_490 (n := 8) (is := [0]) (rs := [1, 2, 3, 4, 5, 6, 7]) (bs' := [wX5 g A b v392.2, [(A2 b2, .inl (gI g, 48, .inl y))], [(A3 b3, .inl (gI g, 48, .inl z3))], [(A4 b4, .inl (gI g, 48, .inl z4))], [(A5 b5, .inl (gI g, 48, .inl z5))], [(A6 b6, .inl (gI g, 32, .inl z6))], [(A7 b7, .inl (gI g, 32, .inl z7))], [(A8 b8, .inl (gI g, 10, .inl z8))]]) rfl rfl pm_135268d1 (List.append_nil _) (List.append_nil _) rfl (fun H locs hW => ?_)
                              refine lv_aload hx hb dL_road_493 (lv_at hl 3 rfl) ?_
                              refine lv_bipush (v := 6) hx hb dL_road_495 (by decide) ?_
                              obtain ⟨g22, h⟩ := q_g h
                              refine r_iald C hW 7 0 rfl rfl g22 dL_road_497 ?_
                              refine lv_icmp_ne (tgt := 623) hx hb dL_road_498 (by decide) (fun e23 => ?_) (fun e23 => ?_)
                              · replace h := q_f e23 h
                                refine lv_iconst (v := 0) hx hb dL_road_623 (by decide) ?_
                                cases h
                                refine W.widen (k := 7) (n := 336) (by omega) (by omega) ?_
                                exact E _ _ _ _ [wX5 g A b v392.2, [(A2 b2, .inl (gI g, 48, .inl y))], [(A3 b3, .inl (gI g, 48, .inl z3))], [(A4 b4, .inl (gI g, 48, .inl z4))], [(A5 b5, .inl (gI g, 48, .inl z5))], [(A6 b6, .inl (gI g, 32, .inl z6))], [(A7 b7, .inl (gI g, 32, .inl z7))], [(A8 b8, .inl (gI g, 10, .inl z8))]] (hW.cut (cs := []) rfl) rfl rfl dL_road_624
                              · replace h := q_t e23 h
                                refine lv_aload_n hx hb dL_road_501 rfl (lv_at hl 0 rfl) ?_
                                refine lv_bipush (v := 6) hx hb dL_road_502 (by decide) ?_
                                obtain ⟨t24, h25, h⟩ := q_b h
                                refine r_cVi C hW (nA := 1) (As := [.int 6]) (rest := []) (c_X5_total l g A b v392.2 6 _ h25) gL_road_X5_total rfl ⟨rfl, wo_X5_total⟩ (rmk hR rfl rfl) rfl rfl rfl rfl hl.1 (Nat.le_of_ble_eq_true rfl) ⟨by rw [hz.1]; omega, by rw [hz.2]; omega⟩ dL_road_504 (n := 8) (is := [0]) (rs := [1, 2, 3, 4, 5, 6, 7]) (bs' := [wX5 g A b v392.2, [(A2 b2, .inl (gI g, 48, .inl y))], [(A3 b3, .inl (gI g, 48, .inl z3))], [(A4 b4, .inl (gI g, 48, .inl z4))], [(A5 b5, .inl (gI g, 48, .inl z5))], [(A6 b6, .inl (gI g, 32, .inl z6))], [(A7 b7, .inl (gI g, 32, .inl z7))], [(A8 b8, .inl (gI g, 10, .inl z8))]]) rfl rfl pm_135268d1 (List.append_nil _) (List.append_nil _) rfl (fun H locs hW => ?_)
                                refine lv_aload hx hb dL_road_507 (lv_at hl 3 rfl) ?_
                                refine lv_bipush (v := 7) hx hb dL_road_509 (by decide) ?_
                                obtain ⟨g26, h⟩ := q_g h
                                refine r_iald C hW 7 0 rfl rfl g26 dL_road_511 ?_
                                refine lv_icmp_ne (tgt := 623) hx hb dL_road_512 (by decide) (fun e27 => ?_) (fun e27 => ?_)
                                · replace h := q_f e27 h
                                  refine lv_iconst (v := 0) hx hb dL_road_623 (by decide) ?_
                                  cases h
                                  refine W.widen (k := 7) (n := 336) (by omega) (by omega) ?_
                                  exact E _ _ _ _ [wX5 g A b v392.2, [(A2 b2, .inl (gI g, 48, .inl y))], [(A3 b3, .inl (gI g, 48, .inl z3))], [(A4 b4, .inl (gI g, 48, .inl z4))], [(A5 b5, .inl (gI g, 48, .inl z5))], [(A6 b6, .inl (gI g, 32, .inl z6))], [(A7 b7, .inl (gI g, 32, .inl z7))], [(A8 b8, .inl (gI g, 10, .inl z8))]] (hW.cut (cs := []) rfl) rfl rfl dL_road_624
                                · replace h := q_t e27 h
                                  refine lv_aload_n hx hb dL_road_515 rfl (lv_at hl 0 rfl) ?_
                                  refine lv_bipush (v := 7) hx hb dL_road_516 (by decide) ?_
                                  obtain ⟨t28, h29, h⟩ := q_b h
                                  refine r_cVi C hW (nA := 1) (As := [.int 7]) (rest := []) (c_X5_total l g A b v392.2 7 _ h29) gL_road_X5_total rfl ⟨rfl, wo_X5_total⟩ (rmk hR rfl rfl) rfl rfl rfl rfl hl.1 (Nat.le_of_ble_eq_true rfl) ⟨by rw [hz.1]; omega, by rw [hz.2]; omega⟩ dL_road_518 (n := 8) (is := [0]) (rs := [1, 2, 3, 4, 5, 6, 7]) (bs' := [wX5 g A b v392.2, [(A2 b2, .inl (gI g, 48, .inl y))], [(A3 b3, .inl (gI g, 48, .inl z3))], [(A4 b4, .inl (gI g, 48, .inl z4))], [(A5 b5, .inl (gI g, 48, .inl z5))], [(A6 b6, .inl (gI g, 32, .inl z6))], [(A7 b7, .inl (gI g, 32, .inl z7))], [(A8 b8, .inl (gI g, 10, .inl z8))]]) rfl rfl pm_135268d1 (List.append_nil _) (List.append_nil _) rfl (fun H locs hW => ?_)
                                  refine lv_aload hx hb dL_road_521 (lv_at hl 3 rfl) ?_
                                  refine lv_bipush (v := 8) hx hb dL_road_523 (by decide) ?_
                                  obtain ⟨g30, h⟩ := q_g h
                                  refine r_iald C hW 7 0 rfl rfl g30 dL_road_525 ?_
                                  refine lv_icmp_ne (tgt := 623) hx hb dL_road_526 (by decide) (fun e31 => ?_) (fun e31 => ?_)
                                  · replace h := q_f e31 h
                                    refine lv_iconst (v := 0) hx hb dL_road_623 (by decide) ?_
                                    cases h
                                    refine W.widen (k := 7) (n := 336) (by omega) (by omega) ?_
                                    exact E _ _ _ _ [wX5 g A b v392.2, [(A2 b2, .inl (gI g, 48, .inl y))], [(A3 b3, .inl (gI g, 48, .inl z3))], [(A4 b4, .inl (gI g, 48, .inl z4))], [(A5 b5, .inl (gI g, 48, .inl z5))], [(A6 b6, .inl (gI g, 32, .inl z6))], [(A7 b7, .inl (gI g, 32, .inl z7))], [(A8 b8, .inl (gI g, 10, .inl z8))]] (hW.cut (cs := []) rfl) rfl rfl dL_road_624
                                  · replace h := q_t e31 h
                                    refine lv_aload_n hx hb dL_road_529 rfl (lv_at hl 0 rfl) ?_
                                    refine lv_bipush (v := 8) hx hb dL_road_530 (by decide) ?_
                                    obtain ⟨t32, h33, h⟩ := q_b h
                                    refine r_cVi C hW (nA := 1) (As := [.int 8]) (rest := []) (c_X5_total l g A b v392.2 8 _ h33) gL_road_X5_total rfl ⟨rfl, wo_X5_total⟩ (rmk hR rfl rfl) rfl rfl rfl rfl hl.1 (Nat.le_of_ble_eq_true rfl) ⟨by rw [hz.1]; omega, by rw [hz.2]; omega⟩ dL_road_532 (n := 8) (is := [0]) (rs := [1, 2, 3, 4, 5, 6, 7]) (bs' := [wX5 g A b v392.2, [(A2 b2, .inl (gI g, 48, .inl y))], [(A3 b3, .inl (gI g, 48, .inl z3))], [(A4 b4, .inl (gI g, 48, .inl z4))], [(A5 b5, .inl (gI g, 48, .inl z5))], [(A6 b6, .inl (gI g, 32, .inl z6))], [(A7 b7, .inl (gI g, 32, .inl z7))], [(A8 b8, .inl (gI g, 10, .inl z8))]]) rfl rfl pm_135268d1 (List.append_nil _) (List.append_nil _) rfl (fun H locs hW => ?_)
                                    refine lv_aload hx hb dL_road_535 (lv_at hl 3 rfl) ?_
                                    refine lv_bipush (v := 9) hx hb dL_road_537 (by decide) ?_
                                    obtain ⟨g34, h⟩ := q_g h
                                    refine r_iald C hW 7 0 rfl rfl g34 dL_road_539 ?_
                                    refine lv_icmp_ne (tgt := 623) hx hb dL_road_540 (by decide) (fun e35 => ?_) (fun e35 => ?_)
                                    · replace h := q_f e35 h
                                      refine lv_iconst (v := 0) hx hb dL_road_623 (by decide) ?_
                                      cases h
                                      refine W.widen (k := 7) (n := 336) (by omega) (by omega) ?_
                                      exact E _ _ _ _ [wX5 g A b v392.2, [(A2 b2, .inl (gI g, 48, .inl y))], [(A3 b3, .inl (gI g, 48, .inl z3))], [(A4 b4, .inl (gI g, 48, .inl z4))], [(A5 b5, .inl (gI g, 48, .inl z5))], [(A6 b6, .inl (gI g, 32, .inl z6))], [(A7 b7, .inl (gI g, 32, .inl z7))], [(A8 b8, .inl (gI g, 10, .inl z8))]] (hW.cut (cs := []) rfl) rfl rfl dL_road_624
                                    · replace h := q_t e35 h
                                      refine lv_aload_n hx hb dL_road_543 rfl (lv_at hl 0 rfl) ?_
                                      refine lv_bipush (v := 9) hx hb dL_road_544 (by decide) ?_
                                      obtain ⟨t36, h37, h⟩ := q_b h
                                      refine r_cVi C hW (nA := 1) (As := [.int 9]) (rest := []) (c_X5_total l g A b v392.2 9 _ h37) gL_road_X5_total rfl ⟨rfl, wo_X5_total⟩ (rmk hR rfl rfl) rfl rfl rfl rfl hl.1 (Nat.le_of_ble_eq_true rfl) ⟨by rw [hz.1]; omega, by rw [hz.2]; omega⟩ dL_road_546 (n := 8) (is := [0]) (rs := [1, 2, 3, 4, 5, 6, 7]) (bs' := [wX5 g A b v392.2, [(A2 b2, .inl (gI g, 48, .inl y))], [(A3 b3, .inl (gI g, 48, .inl z3))], [(A4 b4, .inl (gI g, 48, .inl z4))], [(A5 b5, .inl (gI g, 48, .inl z5))], [(A6 b6, .inl (gI g, 32, .inl z6))], [(A7 b7, .inl (gI g, 32, .inl z7))], [(A8 b8, .inl (gI g, 10, .inl z8))]]) rfl rfl pm_135268d1 (List.append_nil _) (List.append_nil _) rfl (fun H locs hW => ?_)
                                      refine lv_iload hx hb dL_road_549 (lv_at hl 8 rfl) ?_
                                      refine lv_icmp_ne (tgt := 623) hx hb dL_road_551 (by decide) (fun e38 => ?_) (fun e38 => ?_)
                                      · replace h := q_f e38 h
                                        refine lv_iconst (v := 0) hx hb dL_road_623 (by decide) ?_
                                        cases h
                                        refine W.widen (k := 7) (n := 336) (by omega) (by omega) ?_
                                        exact E _ _ _ _ [wX5 g A b v392.2, [(A2 b2, .inl (gI g, 48, .inl y))], [(A3 b3, .inl (gI g, 48, .inl z3))], [(A4 b4, .inl (gI g, 48, .inl z4))], [(A5 b5, .inl (gI g, 48, .inl z5))], [(A6 b6, .inl (gI g, 32, .inl z6))], [(A7 b7, .inl (gI g, 32, .inl z7))], [(A8 b8, .inl (gI g, 10, .inl z8))]] (hW.cut (cs := []) rfl) rfl rfl dL_road_624
                                      · replace h := q_t e38 h
                                        refine lv_aload_n hx hb dL_road_554 rfl (lv_at hl 0 rfl) ?_
                                        refine lv_bipush (v := 10) hx hb dL_road_555 (by decide) ?_
                                        obtain ⟨t39, h40, h⟩ := q_b h
                                        refine r_cVi C hW (nA := 1) (As := [.int 10]) (rest := []) (c_X5_total l g A b v392.2 10 _ h40) gL_road_X5_total rfl ⟨rfl, wo_X5_total⟩ (rmk hR rfl rfl) rfl rfl rfl rfl hl.1 (Nat.le_of_ble_eq_true rfl) ⟨by rw [hz.1]; omega, by rw [hz.2]; omega⟩ dL_road_557 (n := 8) (is := [0]) (rs := [1, 2, 3, 4, 5, 6, 7]) (bs' := [wX5 g A b v392.2, [(A2 b2, .inl (gI g, 48, .inl y))], [(A3 b3, .inl (gI g, 48, .inl z3))], [(A4 b4, .inl (gI g, 48, .inl z4))], [(A5 b5, .inl (gI g, 48, .inl z5))], [(A6 b6, .inl (gI g, 32, .inl z6))], [(A7 b7, .inl (gI g, 32, .inl z7))], [(A8 b8, .inl (gI g, 10, .inl z8))]]) rfl rfl pm_135268d1 (List.append_nil _) (List.append_nil _) rfl (fun H locs hW => ?_)
                                        refine lv_aload hx hb dL_road_560 (lv_at hl 3 rfl) ?_
                                        refine lv_iconst (v := 2) hx hb dL_road_562 (by decide) ?_
                                        obtain ⟨g41, h⟩ := q_g h
                                        refine r_iald C hW 7 0 rfl rfl g41 dL_road_563 ?_
                                        refine lv_icmp_ne (tgt := 623) hx hb dL_road_564 (by decide) (fun e42 => ?_) (fun e42 => ?_)
                                        · replace h := q_f e42 h
                                          refine lv_iconst (v := 0) hx hb dL_road_623 (by decide) ?_
                                          cases h
                                          refine W.widen (k := 7) (n := 336) (by omega) (by omega) ?_
                                          exact E _ _ _ _ [wX5 g A b v392.2, [(A2 b2, .inl (gI g, 48, .inl y))], [(A3 b3, .inl (gI g, 48, .inl z3))], [(A4 b4, .inl (gI g, 48, .inl z4))], [(A5 b5, .inl (gI g, 48, .inl z5))], [(A6 b6, .inl (gI g, 32, .inl z6))], [(A7 b7, .inl (gI g, 32, .inl z7))], [(A8 b8, .inl (gI g, 10, .inl z8))]] (hW.cut (cs := []) rfl) rfl rfl dL_road_624
                                        · replace h := q_t e42 h
                                          refine lv_aload_n hx hb dL_road_567 rfl (lv_at hl 0 rfl) ?_
                                          refine lv_bipush (v := 11) hx hb dL_road_568 (by decide) ?_
                                          obtain ⟨t43, h44, h⟩ := q_b h
                                          refine r_cVi C hW (nA := 1) (As := [.int 11]) (rest := []) (c_X5_total l g A b v392.2 11 _ h44) gL_road_X5_total rfl ⟨rfl, wo_X5_total⟩ (rmk hR rfl rfl) rfl rfl rfl rfl hl.1 (Nat.le_of_ble_eq_true rfl) ⟨by rw [hz.1]; omega, by rw [hz.2]; omega⟩ dL_road_570 (n := 8) (is := [0]) (rs := [1, 2, 3, 4, 5, 6, 7]) (bs' := [wX5 g A b v392.2, [(A2 b2, .inl (gI g, 48, .inl y))], [(A3 b3, .inl (gI g, 48, .inl z3))], [(A4 b4, .inl (gI g, 48, .inl z4))], [(A5 b5, .inl (gI g, 48, .inl z5))], [(A6 b6, .inl (gI g, 32, .inl z6))], [(A7 b7, .inl (gI g, 32, .inl z7))], [(A8 b8, .inl (gI g, 10, .inl z8))]]) rfl rfl pm_135268d1 (List.append_nil _) (List.append_nil _) rfl (fun H locs hW => ?_)
                                          refine lv_aload hx hb dL_road_573 (lv_at hl 3 rfl) ?_
                                          refine lv_iconst (v := 3) hx hb dL_road_575 (by decide) ?_
                                          obtain ⟨g45, h⟩ := q_g h
                                          refine r_iald C hW 7 0 rfl rfl g45 dL_road_576 ?_
                                          refine lv_icmp_ne (tgt := 623) hx hb dL_road_577 (by decide) (fun e46 => ?_) (fun e46 => ?_)
                                          · replace h := q_f e46 h
                                            refine lv_iconst (v := 0) hx hb dL_road_623 (by decide) ?_
                                            cases h
                                            refine W.widen (k := 7) (n := 336) (by omega) (by omega) ?_
                                            exact E _ _ _ _ [wX5 g A b v392.2, [(A2 b2, .inl (gI g, 48, .inl y))], [(A3 b3, .inl (gI g, 48, .inl z3))], [(A4 b4, .inl (gI g, 48, .inl z4))], [(A5 b5, .inl (gI g, 48, .inl z5))], [(A6 b6, .inl (gI g, 32, .inl z6))], [(A7 b7, .inl (gI g, 32, .inl z7))], [(A8 b8, .inl (gI g, 10, .inl z8))]] (hW.cut (cs := []) rfl) rfl rfl dL_road_624
                                          · replace h := q_t e46 h
                                            refine lv_aload_n hx hb dL_road_580 rfl (lv_at hl 0 rfl) ?_
                                            refine lv_bipush (v := 12) hx hb dL_road_581 (by decide) ?_
                                            obtain ⟨t47, h48, h⟩ := q_b h
                                            refine r_cVi C hW (nA := 1) (As := [.int 12]) (rest := []) (c_X5_total l g A b v392.2 12 _ h48) gL_road_X5_total rfl ⟨rfl, wo_X5_total⟩ (rmk hR rfl rfl) rfl rfl rfl rfl hl.1 (Nat.le_of_ble_eq_true rfl) ⟨by rw [hz.1]; omega, by rw [hz.2]; omega⟩ dL_road_583 (n := 8) (is := [0]) (rs := [1, 2, 3, 4, 5, 6, 7]) (bs' := [wX5 g A b v392.2, [(A2 b2, .inl (gI g, 48, .inl y))], [(A3 b3, .inl (gI g, 48, .inl z3))], [(A4 b4, .inl (gI g, 48, .inl z4))], [(A5 b5, .inl (gI g, 48, .inl z5))], [(A6 b6, .inl (gI g, 32, .inl z6))], [(A7 b7, .inl (gI g, 32, .inl z7))], [(A8 b8, .inl (gI g, 10, .inl z8))]]) rfl rfl pm_135268d1 (List.append_nil _) (List.append_nil _) rfl (fun H locs hW => ?_)
                                            refine lv_aload hx hb dL_road_586 (lv_at hl 3 rfl) ?_
                                            refine lv_iconst (v := 4) hx hb dL_road_588 (by decide) ?_
                                            obtain ⟨g49, h⟩ := q_g h
                                            refine r_iald C hW 7 0 rfl rfl g49 dL_road_589 ?_
                                            refine lv_icmp_ne (tgt := 623) hx hb dL_road_590 (by decide) (fun e50 => ?_) (fun e50 => ?_)
                                            · replace h := q_f e50 h
                                              refine lv_iconst (v := 0) hx hb dL_road_623 (by decide) ?_
                                              cases h
                                              refine W.widen (k := 7) (n := 336) (by omega) (by omega) ?_
                                              exact E _ _ _ _ [wX5 g A b v392.2, [(A2 b2, .inl (gI g, 48, .inl y))], [(A3 b3, .inl (gI g, 48, .inl z3))], [(A4 b4, .inl (gI g, 48, .inl z4))], [(A5 b5, .inl (gI g, 48, .inl z5))], [(A6 b6, .inl (gI g, 32, .inl z6))], [(A7 b7, .inl (gI g, 32, .inl z7))], [(A8 b8, .inl (gI g, 10, .inl z8))]] (hW.cut (cs := []) rfl) rfl rfl dL_road_624
                                            · replace h := q_t e50 h
                                              refine lv_aload_n hx hb dL_road_593 rfl (lv_at hl 0 rfl) ?_
                                              refine lv_bipush (v := 13) hx hb dL_road_594 (by decide) ?_
                                              obtain ⟨t51, h52, h⟩ := q_b h
                                              refine r_cVi C hW (nA := 1) (As := [.int 13]) (rest := []) (c_X5_total l g A b v392.2 13 _ h52) gL_road_X5_total rfl ⟨rfl, wo_X5_total⟩ (rmk hR rfl rfl) rfl rfl rfl rfl hl.1 (Nat.le_of_ble_eq_true rfl) ⟨by rw [hz.1]; omega, by rw [hz.2]; omega⟩ dL_road_596 (n := 8) (is := [0]) (rs := [1, 2, 3, 4, 5, 6, 7]) (bs' := [wX5 g A b v392.2, [(A2 b2, .inl (gI g, 48, .inl y))], [(A3 b3, .inl (gI g, 48, .inl z3))], [(A4 b4, .inl (gI g, 48, .inl z4))], [(A5 b5, .inl (gI g, 48, .inl z5))], [(A6 b6, .inl (gI g, 32, .inl z6))], [(A7 b7, .inl (gI g, 32, .inl z7))], [(A8 b8, .inl (gI g, 10, .inl z8))]]) rfl rfl pm_135268d1 (List.append_nil _) (List.append_nil _) rfl (fun H locs hW => ?_)
                                              refine lv_aload hx hb dL_road_599 (lv_at hl 3 rfl) ?_
                                              refine lv_iconst (v := 0) hx hb dL_road_601 (by decide) ?_
                                              obtain ⟨g53, h⟩ := q_g h
                                              refine r_iald C hW 7 0 rfl rfl g53 dL_road_602 ?_
                                              refine lv_icmp_ne (tgt := 623) hx hb dL_road_603 (by decide) (fun e54 => ?_) (fun e54 => ?_)
                                              · replace h := q_f e54 h
                                                refine lv_iconst (v := 0) hx hb dL_road_623 (by decide) ?_
                                                cases h
                                                refine W.widen (k := 7) (n := 336) (by omega) (by omega) ?_
                                                exact E _ _ _ _ [wX5 g A b v392.2, [(A2 b2, .inl (gI g, 48, .inl y))], [(A3 b3, .inl (gI g, 48, .inl z3))], [(A4 b4, .inl (gI g, 48, .inl z4))], [(A5 b5, .inl (gI g, 48, .inl z5))], [(A6 b6, .inl (gI g, 32, .inl z6))], [(A7 b7, .inl (gI g, 32, .inl z7))], [(A8 b8, .inl (gI g, 10, .inl z8))]] (hW.cut (cs := []) rfl) rfl rfl dL_road_624
                                              · replace h := q_t e54 h
                                                refine lv_aload_n hx hb dL_road_606 rfl (lv_at hl 0 rfl) ?_
                                                refine lv_bipush (v := 14) hx hb dL_road_607 (by decide) ?_
                                                obtain ⟨t55, h56, h⟩ := q_b h
                                                refine r_cVi C hW (nA := 1) (As := [.int 14]) (rest := []) (c_X5_total l g A b v392.2 14 _ h56) gL_road_X5_total rfl ⟨rfl, wo_X5_total⟩ (rmk hR rfl rfl) rfl rfl rfl rfl hl.1 (Nat.le_of_ble_eq_true rfl) ⟨by rw [hz.1]; omega, by rw [hz.2]; omega⟩ dL_road_609 (n := 8) (is := [0]) (rs := [1, 2, 3, 4, 5, 6, 7]) (bs' := [wX5 g A b v392.2, [(A2 b2, .inl (gI g, 48, .inl y))], [(A3 b3, .inl (gI g, 48, .inl z3))], [(A4 b4, .inl (gI g, 48, .inl z4))], [(A5 b5, .inl (gI g, 48, .inl z5))], [(A6 b6, .inl (gI g, 32, .inl z6))], [(A7 b7, .inl (gI g, 32, .inl z7))], [(A8 b8, .inl (gI g, 10, .inl z8))]]) rfl rfl pm_135268d1 (List.append_nil _) (List.append_nil _) rfl (fun H locs hW => ?_)
                                                refine lv_aload hx hb dL_road_612 (lv_at hl 3 rfl) ?_
                                                refine lv_iconst (v := 1) hx hb dL_road_614 (by decide) ?_
                                                obtain ⟨g57, h⟩ := q_g h
                                                refine r_iald C hW 7 0 rfl rfl g57 dL_road_615 ?_
                                                refine lv_icmp_ne (tgt := 623) hx hb dL_road_616 (by decide) (fun e58 => ?_) (fun e58 => ?_)
                                                · replace h := q_f e58 h
                                                  refine lv_iconst (v := 0) hx hb dL_road_623 (by decide) ?_
                                                  cases h
                                                  refine W.widen (k := 7) (n := 336) (by omega) (by omega) ?_
                                                  exact E _ _ _ _ [wX5 g A b v392.2, [(A2 b2, .inl (gI g, 48, .inl y))], [(A3 b3, .inl (gI g, 48, .inl z3))], [(A4 b4, .inl (gI g, 48, .inl z4))], [(A5 b5, .inl (gI g, 48, .inl z5))], [(A6 b6, .inl (gI g, 32, .inl z6))], [(A7 b7, .inl (gI g, 32, .inl z7))], [(A8 b8, .inl (gI g, 10, .inl z8))]] (hW.cut (cs := []) rfl) rfl rfl dL_road_624
                                                · replace h := q_t e58 h
                                                  refine lv_iconst (v := 1) hx hb dL_road_619 (by decide) ?_
                                                  refine lv_goto (tgt := 624) hx hb dL_road_620 (by decide) ?_
                                                  cases h
                                                  refine W.widen (k := 7) (n := 336) (by omega) (by omega) ?_
                                                  exact E _ _ _ _ [wX5 g A b v392.2, [(A2 b2, .inl (gI g, 48, .inl y))], [(A3 b3, .inl (gI g, 48, .inl z3))], [(A4 b4, .inl (gI g, 48, .inl z4))], [(A5 b5, .inl (gI g, 48, .inl z5))], [(A6 b6, .inl (gI g, 32, .inl z6))], [(A7 b7, .inl (gI g, 32, .inl z7))], [(A8 b8, .inl (gI g, 10, .inl z8))]] (hW.cut (cs := []) rfl) rfl rfl dL_road_624
                  · replace h := q_f e3 h
                    refine lv_aload_n hx hb dL_road_399 rfl (lv_at hl 0 rfl) ?_
                    refine lv_iload hx hb dL_road_400 (lv_at hl 9 rfl) ?_
                    refine lv_iconst (v := 3) hx hb dL_road_402 (by decide) ?_
                    have g59 : ¬ (3 : Int32) = 0 := by decide
                    refine lv_idiv hx hb dL_road_403 g59 ?_
                    refine lv_iload hx hb dL_road_404 (lv_at hl 9 rfl) ?_
                    refine lv_iconst (v := 3) hx hb dL_road_406 (by decide) ?_
                    have g60 : ¬ (3 : Int32) = 0 := by decide
                    refine lv_irem hx hb dL_road_407 g60 ?_
                    obtain ⟨t61, h62, h⟩ := q_b h
                    refine r_cVi C hW (nA := 2) (As := [.int (v392.1 / 3), .int (v392.1 - v392.1 / 3 * 3)]) (rest := []) (c_X5_fewestChanges l g A b v392.2 (v392.1 / 3) (v392.1 - v392.1 / 3 * 3) _ _ h62) gL_road_X5_fewestChanges rfl ⟨rfl, wo_X5_fewestChanges⟩ (rmk hR rfl rfl) rfl rfl rfl rfl hl.1 (Nat.le_of_ble_eq_true rfl) ⟨by rw [hz.1]; omega, by rw [hz.2]; omega⟩ dL_road_408 (n := 8) (is := [0]) (rs := [1, 2, 3, 4, 5, 6, 7]) (bs' := [wX5 g A b t61.2, [(A2 b2, .inl (gI g, 48, .inl y))], [(A3 b3, .inl (gI g, 48, .inl z3))], [(A4 b4, .inl (gI g, 48, .inl z4))], [(A5 b5, .inl (gI g, 48, .inl z5))], [(A6 b6, .inl (gI g, 32, .inl z6))], [(A7 b7, .inl (gI g, 32, .inl z7))], [(A8 b8, .inl (gI g, 10, .inl z8))]]) rfl rfl pm_135268d1 (List.append_nil _) (List.append_nil _) rfl (fun H locs hW => ?_)
                    refine lv_aload_n hx hb dL_road_411 rfl (lv_at hl 1 rfl) ?_
                    refine lv_aload hx hb dL_road_412 (lv_at hl 2 rfl) ?_
                    refine lv_iload hx hb dL_road_414 (lv_at hl 9 rfl) ?_
                    refine lv_iconst (v := 3) hx hb dL_road_416 (by decide) ?_
                    have g63 : ¬ (3 : Int32) = 0 := by decide
                    refine lv_idiv hx hb dL_road_417 g63 ?_
                    refine lv_iload hx hb dL_road_418 (lv_at hl 9 rfl) ?_
                    refine lv_iconst (v := 3) hx hb dL_road_420 (by decide) ?_
                    have g64 : ¬ (3 : Int32) = 0 := by decide
                    refine lv_irem hx hb dL_road_421 g64 ?_
                    obtain ⟨t65, h66, h⟩ := q_b h
                    refine r_cSm C hW (nA := 4) (As := [.ref (A2 b2), .ref (A6 b6), .int (v392.1 / 3), .int (v392.1 - v392.1 / 3 * 3)]) (rest := [.int t61.1]) (c_L_drive l g A2 b2 A6 b6 y z6 (v392.1 / 3) (v392.1 - v392.1 / 3 * 3) _ h66) gL_road_L_drive rfl wo_L_drive (rmk hR rfl rfl) rfl rfl hl.1 (Nat.le_of_ble_eq_true rfl) ⟨by rw [hz.1]; omega, by rw [hz.2]; omega⟩ dL_road_422 (n := 8) (is := [1, 5]) (rs := [0, 2, 3, 4, 6, 7]) (bs' := [wX5 g A b t61.2, [(A2 b2, .inl (gI g, 48, .inl y))], [(A3 b3, .inl (gI g, 48, .inl z3))], [(A4 b4, .inl (gI g, 48, .inl z4))], [(A5 b5, .inl (gI g, 48, .inl z5))], [(A6 b6, .inl (gI g, 32, .inl z6))], [(A7 b7, .inl (gI g, 32, .inl z7))], [(A8 b8, .inl (gI g, 10, .inl z8))]]) rfl rfl pm_938efe57 rfl rfl rfl (fun H locs hW => ?_)
                    refine lv_icmp_eq (tgt := 430) hx hb dL_road_425 (by decide) (fun e67 => ?_) (fun e67 => ?_)
                    · replace h := q_t e67 h
                      refine lv_iinc (v := (v392.1 + 1)) (lv' := [(13, .int (v392.1 + 1)), (0, .ref (A b)), (1, .ref (A2 b2)), (5, .ref (A6 b6)), (7, .ref (A8 b8)), (8, .int v18.1), (9, .int v18.2.1), (10, .int v300.1), (11, .int v18.2.2.1), (12, .int v300.2.1)]) hx hb dL_road_430 hl (k := 9) rfl rfl (by decide) rfl (fun ls hl => ?_)
                      refine lv_goto (tgt := 392) hx hb dL_road_433 (by decide) ?_
                      exact ih392 _ _ (by omega) (by omega) ((v392.1 + 1), t61.2) h _ _ hW _ (lv_sub hl [1, 2, 3, 4, 5, 6, 7, 8, 9, 0] rfl)
                    · replace h := q_f e67 h
                      refine lv_iconst (v := 0) hx hb dL_road_428 (by decide) ?_
                      cases h
                      refine W.widen (k := 7) (n := 336) (by omega) (by omega) ?_
                      exact E _ _ _ _ [wX5 g A b t61.2, [(A2 b2, .inl (gI g, 48, .inl y))], [(A3 b3, .inl (gI g, 48, .inl z3))], [(A4 b4, .inl (gI g, 48, .inl z4))], [(A5 b5, .inl (gI g, 48, .inl z5))], [(A6 b6, .inl (gI g, 32, .inl z6))], [(A7 b7, .inl (gI g, 32, .inl z7))], [(A8 b8, .inl (gI g, 10, .inl z8))]] (hW.cut (cs := []) rfl) rfl rfl dL_road_429
              exact L392 7 _ _ (by omega) (by omega) (0, x) h _ _ hW _ (lv_sub hl [1, 2, 3, 5, 6, 7, 8, 9, 10, 0] rfl)
            · replace h := q_f e2 h
              refine lv_iload hx hb dL_road_307 (lv_at hl 7 rfl) ?_
              refine lv_aload hx hb dL_road_309 (lv_at hl 2 rfl) ?_
              refine lv_iload hx hb dL_road_311 (lv_at hl 10 rfl) ?_
              obtain ⟨g68, h⟩ := q_g h
              refine r_iald C hW 5 0 rfl rfl g68 dL_road_313 ?_
              have J322 : ∀ (w322 : Int32), f_L_road_j322 x z6 z7 (lpN (f_L_road_l300 x y z6 z7 z8 v18) n300) v300 w322 = some (r, x') → ∀ (H : Heap) (locs : List Loc), WdG g Z s.heap H locs [wX5 g A b x, [(A2 b2, .inl (gI g, 48, .inl y))], [(A3 b3, .inl (gI g, 48, .inl z3))], [(A4 b4, .inl (gI g, 48, .inl z4))], [(A5 b5, .inl (gI g, 48, .inl z5))], [(A6 b6, .inl (gI g, 32, .inl z6))], [(A7 b7, .inl (gI g, 32, .inl z7))], [(A8 b8, .inl (gI g, 10, .inl z8))]] → ∀ ls : Array Slot, lv_has ls 16 [(0, .ref (A b)), (1, .ref (A2 b2)), (5, .ref (A6 b6)), (6, .ref (A7 b7)), (7, .ref (A8 b8)), (8, .int v18.1), (9, .int v18.2.1), (11, .int v18.2.2.1), (12, .int v300.2.1), (13, .int v300.2.2)] → W p l e R s m args below meth c H locs 0 0 Q (F0 m 322 ls [.int w322, .int v300.1]) := by
                intro w322 h H locs hW ls hl
                unfold f_L_road_j322 at h
                refine lv_iadd hx hb dL_road_322 ?_
                refine lv_istore (lv' := [(10, .int (v300.1 + w322)), (0, .ref (A b)), (1, .ref (A2 b2)), (5, .ref (A6 b6)), (6, .ref (A7 b7)), (7, .ref (A8 b8)), (8, .int v18.1), (9, .int v18.2.1), (11, .int v18.2.2.1), (12, .int v300.2.1), (13, .int v300.2.2)]) hx hb dL_road_323 hl (by decide) rfl (fun ls hl => ?_)
                refine lv_iload hx hb dL_road_325 (lv_at hl 9 rfl) ?_
                refine lv_aload hx hb dL_road_327 (lv_at hl 4 rfl) ?_
                refine lv_iload hx hb dL_road_329 (lv_at hl 10 rfl) ?_
                obtain ⟨g69, h⟩ := q_g h
                refine r_iald C hW 6 0 rfl rfl g69 dL_road_331 ?_
                refine lv_iadd hx hb dL_road_332 ?_
                refine lv_istore (lv' := [(12, .int (v300.2.1 + (z7 (v300.2.2).toNatClampNeg))), (10, .int (v300.1 + w322)), (0, .ref (A b)), (1, .ref (A2 b2)), (5, .ref (A6 b6)), (6, .ref (A7 b7)), (7, .ref (A8 b8)), (8, .int v18.1), (9, .int v18.2.1), (11, .int v18.2.2.1), (13, .int v300.2.2)]) hx hb dL_road_333 hl (by decide) rfl (fun ls hl => ?_)
                refine lv_aload_n hx hb dL_road_335 rfl (lv_at hl 2 rfl) ?_
                refine lv_iload hx hb dL_road_336 (lv_at hl 10 rfl) ?_
                refine lv_bipush (v := 16) hx hb dL_road_338 (by decide) ?_
                have g70 : ¬ (16 : Int32) = 0 := by decide
                refine lv_idiv hx hb dL_road_340 g70 ?_
                refine lv_iload hx hb dL_road_341 (lv_at hl 10 rfl) ?_
                refine lv_bipush (v := 16) hx hb dL_road_343 (by decide) ?_
                have g71 : ¬ (16 : Int32) = 0 := by decide
                refine lv_irem hx hb dL_road_345 g71 ?_
                refine lv_iconst (v := 0) hx hb dL_road_346 (by decide) ?_
                obtain ⟨t72, h73, h⟩ := q_b h
                refine r_cVi C hW (nA := 3) (As := [.int (v300.2.2 / 16), .int (v300.2.2 - v300.2.2 / 16 * 16), .int 0]) (rest := []) (c_X5_line l g A b x (v300.2.2 / 16) (v300.2.2 - v300.2.2 / 16 * 16) 0 _ h73) gL_road_X5_line rfl ⟨rfl, wo_X5_line⟩ (rmk hR rfl rfl) rfl rfl rfl rfl hl.1 (Nat.le_of_ble_eq_true rfl) ⟨by rw [hz.1]; omega, by rw [hz.2]; omega⟩ dL_road_347 (n := 8) (is := [0]) (rs := [1, 2, 3, 4, 5, 6, 7]) (bs' := [wX5 g A b x, [(A2 b2, .inl (gI g, 48, .inl y))], [(A3 b3, .inl (gI g, 48, .inl z3))], [(A4 b4, .inl (gI g, 48, .inl z4))], [(A5 b5, .inl (gI g, 48, .inl z5))], [(A6 b6, .inl (gI g, 32, .inl z6))], [(A7 b7, .inl (gI g, 32, .inl z7))], [(A8 b8, .inl (gI g, 10, .inl z8))]]) rfl rfl pm_135268d1 (List.append_nil _) (List.append_nil _) rfl (fun H locs hW => ?_)
                refine lv_aload hx hb dL_road_350 (lv_at hl 4 rfl) ?_
                refine lv_iload hx hb dL_road_352 (lv_at hl 10 rfl) ?_
                obtain ⟨g74, h⟩ := q_g h
                refine r_iald C hW 5 0 rfl rfl g74 dL_road_354 ?_
                refine lv_icmp_ne (tgt := 381) hx hb dL_road_355 (by decide) (fun e75 => ?_) (fun e75 => ?_)
                · replace h := q_f e75 h
                  refine lv_iconst (v := 0) hx hb dL_road_381 (by decide) ?_
                  cases h
                  refine W.widen (k := 7) (n := 336) (by omega) (by omega) ?_
                  exact E _ _ _ _ [wX5 g A b x, [(A2 b2, .inl (gI g, 48, .inl y))], [(A3 b3, .inl (gI g, 48, .inl z3))], [(A4 b4, .inl (gI g, 48, .inl z4))], [(A5 b5, .inl (gI g, 48, .inl z5))], [(A6 b6, .inl (gI g, 32, .inl z6))], [(A7 b7, .inl (gI g, 32, .inl z7))], [(A8 b8, .inl (gI g, 10, .inl z8))]] (hW.cut (cs := []) rfl) rfl rfl dL_road_382
                · replace h := q_t e75 h
                  refine lv_aload_n hx hb dL_road_358 rfl (lv_at hl 2 rfl) ?_
                  refine lv_iload hx hb dL_road_359 (lv_at hl 10 rfl) ?_
                  refine lv_bipush (v := 16) hx hb dL_road_361 (by decide) ?_
                  have g76 : ¬ (16 : Int32) = 0 := by decide
                  refine lv_idiv hx hb dL_road_363 g76 ?_
                  refine lv_iload hx hb dL_road_364 (lv_at hl 10 rfl) ?_
                  refine lv_bipush (v := 16) hx hb dL_road_366 (by decide) ?_
                  have g77 : ¬ (16 : Int32) = 0 := by decide
                  refine lv_irem hx hb dL_road_368 g77 ?_
                  refine lv_iconst (v := 1) hx hb dL_road_369 (by decide) ?_
                  obtain ⟨t78, h79, h⟩ := q_b h
                  refine r_cVi C hW (nA := 3) (As := [.int (v300.2.2 / 16), .int (v300.2.2 - v300.2.2 / 16 * 16), .int 1]) (rest := []) (c_X5_line l g A b x (v300.2.2 / 16) (v300.2.2 - v300.2.2 / 16 * 16) 1 _ h79) gL_road_X5_line rfl ⟨rfl, wo_X5_line⟩ (rmk hR rfl rfl) rfl rfl rfl rfl hl.1 (Nat.le_of_ble_eq_true rfl) ⟨by rw [hz.1]; omega, by rw [hz.2]; omega⟩ dL_road_370 (n := 8) (is := [0]) (rs := [1, 2, 3, 4, 5, 6, 7]) (bs' := [wX5 g A b x, [(A2 b2, .inl (gI g, 48, .inl y))], [(A3 b3, .inl (gI g, 48, .inl z3))], [(A4 b4, .inl (gI g, 48, .inl z4))], [(A5 b5, .inl (gI g, 48, .inl z5))], [(A6 b6, .inl (gI g, 32, .inl z6))], [(A7 b7, .inl (gI g, 32, .inl z7))], [(A8 b8, .inl (gI g, 10, .inl z8))]]) rfl rfl pm_135268d1 (List.append_nil _) (List.append_nil _) rfl (fun H locs hW => ?_)
                  refine lv_aload hx hb dL_road_373 (lv_at hl 5 rfl) ?_
                  refine lv_iload hx hb dL_road_375 (lv_at hl 10 rfl) ?_
                  obtain ⟨g80, h⟩ := q_g h
                  refine r_iald C hW 6 0 rfl rfl g80 dL_road_377 ?_
                  refine lv_icmp_eq (tgt := 383) hx hb dL_road_378 (by decide) (fun e81 => ?_) (fun e81 => ?_)
                  · replace h := q_t e81 h
                    refine lv_iinc (v := (v300.2.2 + 1)) (lv' := [(13, .int (v300.2.2 + 1)), (12, .int (v300.2.1 + (z7 (v300.2.2).toNatClampNeg))), (10, .int (v300.1 + w322)), (0, .ref (A b)), (1, .ref (A2 b2)), (5, .ref (A6 b6)), (6, .ref (A7 b7)), (7, .ref (A8 b8)), (8, .int v18.1), (9, .int v18.2.1), (11, .int v18.2.2.1)]) hx hb dL_road_383 hl (k := 10) rfl rfl (by decide) rfl (fun ls hl => ?_)
                    refine lv_goto (tgt := 300) hx hb dL_road_386 (by decide) ?_
                    exact ih300 ((v300.1 + w322), (v300.2.1 + (z7 (v300.2.2).toNatClampNeg)), (v300.2.2 + 1)) h _ _ hW _ (lv_sub hl [3, 4, 5, 6, 7, 8, 9, 2, 10, 1, 0] rfl)
                  · replace h := q_f e81 h
                    refine lv_iconst (v := 0) hx hb dL_road_381 (by decide) ?_
                    cases h
                    refine W.widen (k := 7) (n := 336) (by omega) (by omega) ?_
                    exact E _ _ _ _ [wX5 g A b x, [(A2 b2, .inl (gI g, 48, .inl y))], [(A3 b3, .inl (gI g, 48, .inl z3))], [(A4 b4, .inl (gI g, 48, .inl z4))], [(A5 b5, .inl (gI g, 48, .inl z5))], [(A6 b6, .inl (gI g, 32, .inl z6))], [(A7 b7, .inl (gI g, 32, .inl z7))], [(A8 b8, .inl (gI g, 10, .inl z8))]] (hW.cut (cs := []) rfl) rfl rfl dL_road_382
              refine lv_if_le (tgt := 321) hx hb dL_road_314 (by decide) (fun e82 => ?_) (fun e82 => ?_)
              · replace h := q_t e82 h
                refine lv_iconst (v := 0) hx hb dL_road_321 (by decide) ?_
                exact J322 0 h _ _ hW _ (lv_sub hl [0, 1, 2, 3, 4, 5, 6, 8, 9, 10] rfl)
              · replace h := q_f e82 h
                refine lv_iconst (v := 1) hx hb dL_road_317 (by decide) ?_
                refine lv_goto (tgt := 322) hx hb dL_road_318 (by decide) ?_
                exact J322 1 h _ _ hW _ (lv_sub hl [0, 1, 2, 3, 4, 5, 6, 8, 9, 10] rfl)
        exact L300 3000 (0, v18.2.2.2.1, 0) h _ _ hW _ (lv_sub hl [1, 2, 6, 7, 8, 9, 10, 11, 12, 13, 0] rfl)
      · replace h := q_f e1 h
        refine lv_iload hx hb dL_road_25 (lv_at hl 13 rfl) ?_
        refine lv_bipush (v := 16) hx hb dL_road_27 (by decide) ?_
        have g83 : ¬ (16 : Int32) = 0 := by decide
        refine lv_idiv hx hb dL_road_29 g83 ?_
        refine lv_istore (lv' := [(14, .int (v18.2.2.2.2 / 16)), (0, .ref (A b)), (1, .ref (A2 b2)), (2, .ref (A3 b3)), (3, .ref (A4 b4)), (4, .ref (A5 b5)), (5, .ref (A6 b6)), (6, .ref (A7 b7)), (7, .ref (A8 b8)), (8, .int v18.1), (9, .int v18.2.1), (10, .int 0), (11, .int v18.2.2.1), (12, .int v18.2.2.2.1), (13, .int v18.2.2.2.2)]) hx hb dL_road_30 hl (by decide) rfl (fun ls hl => ?_)
        refine lv_iload hx hb dL_road_32 (lv_at hl 14 rfl) ?_
        refine lv_bipush (v := 16) hx hb dL_road_34 (by decide) ?_
        have g84 : ¬ (16 : Int32) = 0 := by decide
        refine lv_irem hx hb dL_road_36 g84 ?_
        refine lv_istore (lv' := [(15, .int (v18.2.2.2.2 - v18.2.2.2.2 / 16 * 16)), (14, .int (v18.2.2.2.2 / 16)), (0, .ref (A b)), (1, .ref (A2 b2)), (2, .ref (A3 b3)), (3, .ref (A4 b4)), (4, .ref (A5 b5)), (5, .ref (A6 b6)), (6, .ref (A7 b7)), (7, .ref (A8 b8)), (8, .int v18.1), (9, .int v18.2.1), (10, .int 0), (11, .int v18.2.2.1), (12, .int v18.2.2.2.1), (13, .int v18.2.2.2.2)]) hx hb dL_road_37 hl (by decide) rfl (fun ls hl => ?_)
        refine lv_iload hx hb dL_road_39 (lv_at hl 10 rfl) ?_
        refine lv_aload_n hx hb dL_road_41 rfl (lv_at hl 3 rfl) ?_
        refine lv_iload hx hb dL_road_42 (lv_at hl 15 rfl) ?_
        obtain ⟨g85, h⟩ := q_g h
        refine r_iald C hW 1 0 rfl rfl g85 dL_road_44 ?_
        have J53 : ∀ (w53 : Int32), f_L_road_j53 x y z3 z4 z5 z8 (lpN (f_L_road_l18 x y z3 z4 z5 z6 z7 z8) n18) v18 w53 = some (r, x') → ∀ (H : Heap) (locs : List Loc), WdG g Z s.heap H locs [wX5 g A b x, [(A2 b2, .inl (gI g, 48, .inl y))], [(A3 b3, .inl (gI g, 48, .inl z3))], [(A4 b4, .inl (gI g, 48, .inl z4))], [(A5 b5, .inl (gI g, 48, .inl z5))], [(A6 b6, .inl (gI g, 32, .inl z6))], [(A7 b7, .inl (gI g, 32, .inl z7))], [(A8 b8, .inl (gI g, 10, .inl z8))]] → ∀ ls : Array Slot, lv_has ls 16 [(0, .ref (A b)), (1, .ref (A2 b2)), (2, .ref (A3 b3)), (3, .ref (A4 b4)), (4, .ref (A5 b5)), (5, .ref (A6 b6)), (6, .ref (A7 b7)), (7, .ref (A8 b8)), (9, .int v18.2.1), (10, .int 0), (11, .int v18.2.2.1), (12, .int v18.2.2.2.1), (13, .int v18.2.2.2.2), (14, .int (v18.2.2.2.2 / 16)), (15, .int (v18.2.2.2.2 - v18.2.2.2.2 / 16 * 16))] → W p l e R s m args below meth c H locs 0 0 Q (F0 m 53 ls [.int w53, .int v18.1]) := by
          intro w53 h H locs hW ls hl
          unfold f_L_road_j53 at h
          refine lv_iadd hx hb dL_road_53 ?_
          refine lv_istore (lv' := [(8, .int (v18.1 + w53)), (0, .ref (A b)), (1, .ref (A2 b2)), (2, .ref (A3 b3)), (3, .ref (A4 b4)), (4, .ref (A5 b5)), (5, .ref (A6 b6)), (6, .ref (A7 b7)), (7, .ref (A8 b8)), (9, .int v18.2.1), (10, .int 0), (11, .int v18.2.2.1), (12, .int v18.2.2.2.1), (13, .int v18.2.2.2.2), (14, .int (v18.2.2.2.2 / 16)), (15, .int (v18.2.2.2.2 - v18.2.2.2.2 / 16 * 16))]) hx hb dL_road_54 hl (by decide) rfl (fun ls hl => ?_)
          refine lv_iload hx hb dL_road_56 (lv_at hl 9 rfl) ?_
          refine lv_aload_n hx hb dL_road_58 rfl (lv_at hl 4 rfl) ?_
          refine lv_iload hx hb dL_road_59 (lv_at hl 13 rfl) ?_
          obtain ⟨g86, h⟩ := q_g h
          refine r_iald C hW 3 0 rfl rfl g86 dL_road_61 ?_
          have J70 : ∀ (w70 : Int32), f_L_road_j70 x y z3 z4 z5 z8 (lpN (f_L_road_l18 x y z3 z4 z5 z6 z7 z8) n18) v18 w53 w70 = some (r, x') → ∀ (H : Heap) (locs : List Loc), WdG g Z s.heap H locs [wX5 g A b x, [(A2 b2, .inl (gI g, 48, .inl y))], [(A3 b3, .inl (gI g, 48, .inl z3))], [(A4 b4, .inl (gI g, 48, .inl z4))], [(A5 b5, .inl (gI g, 48, .inl z5))], [(A6 b6, .inl (gI g, 32, .inl z6))], [(A7 b7, .inl (gI g, 32, .inl z7))], [(A8 b8, .inl (gI g, 10, .inl z8))]] → ∀ ls : Array Slot, lv_has ls 16 [(0, .ref (A b)), (1, .ref (A2 b2)), (2, .ref (A3 b3)), (3, .ref (A4 b4)), (4, .ref (A5 b5)), (5, .ref (A6 b6)), (6, .ref (A7 b7)), (7, .ref (A8 b8)), (8, .int (v18.1 + w53)), (10, .int 0), (11, .int v18.2.2.1), (12, .int v18.2.2.2.1), (13, .int v18.2.2.2.2), (14, .int (v18.2.2.2.2 / 16)), (15, .int (v18.2.2.2.2 - v18.2.2.2.2 / 16 * 16))] → W p l e R s m args below meth c H locs 0 0 Q (F0 m 70 ls [.int w70, .int v18.2.1]) := by
            intro w70 h H locs hW ls hl
            unfold f_L_road_j70 at h
            refine lv_iadd hx hb dL_road_70 ?_
            refine lv_istore (lv' := [(9, .int (v18.2.1 + w70)), (0, .ref (A b)), (1, .ref (A2 b2)), (2, .ref (A3 b3)), (3, .ref (A4 b4)), (4, .ref (A5 b5)), (5, .ref (A6 b6)), (6, .ref (A7 b7)), (7, .ref (A8 b8)), (8, .int (v18.1 + w53)), (10, .int 0), (11, .int v18.2.2.1), (12, .int v18.2.2.2.1), (13, .int v18.2.2.2.2), (14, .int (v18.2.2.2.2 / 16)), (15, .int (v18.2.2.2.2 - v18.2.2.2.2 / 16 * 16))]) hx hb dL_road_71 hl (by decide) rfl (fun ls hl => ?_)
            refine lv_iload hx hb dL_road_73 (lv_at hl 11 rfl) ?_
            refine lv_aload_n hx hb dL_road_75 rfl (lv_at hl 4 rfl) ?_
            refine lv_aload hx hb dL_road_76 (lv_at hl 5 rfl) ?_
            refine lv_aload hx hb dL_road_78 (lv_at hl 8 rfl) ?_
            refine lv_iload hx hb dL_road_80 (lv_at hl 13 rfl) ?_
            obtain ⟨t87, h88, h⟩ := q_b h
            refine r_cSi C hW (nA := 4) (As := [.ref (A4 b4), .ref (A5 b5), .ref (A8 b8), .int v18.2.2.2.2]) (rest := [.int v18.2.2.1]) (c_L_read l g A4 b4 A5 b5 A8 b8 z4 z5 z8 v18.2.2.2.2 _ h88) gL_road_L_read rfl wo_L_read (rmk hR rfl rfl) rfl rfl hl.1 (Nat.le_of_ble_eq_true rfl) ⟨by rw [hz.1]; omega, by rw [hz.2]; omega⟩ dL_road_82 (n := 8) (is := [3, 4, 7]) (rs := [0, 1, 2, 5, 6]) (bs' := [wX5 g A b x, [(A2 b2, .inl (gI g, 48, .inl y))], [(A3 b3, .inl (gI g, 48, .inl z3))], [(A4 b4, .inl (gI g, 48, .inl z4))], [(A5 b5, .inl (gI g, 48, .inl z5))], [(A6 b6, .inl (gI g, 32, .inl z6))], [(A7 b7, .inl (gI g, 32, .inl z7))], [(A8 b8, .inl (gI g, 10, .inl z8))]]) rfl rfl pm_489d17b0 rfl rfl rfl (fun H locs hW => ?_)
            have J93 : ∀ (w93 : Int32), f_L_road_j93 x y z3 z4 z5 z8 (lpN (f_L_road_l18 x y z3 z4 z5 z6 z7 z8) n18) v18 w53 w70 w93 = some (r, x') → ∀ (H : Heap) (locs : List Loc), WdG g Z s.heap H locs [wX5 g A b x, [(A2 b2, .inl (gI g, 48, .inl y))], [(A3 b3, .inl (gI g, 48, .inl z3))], [(A4 b4, .inl (gI g, 48, .inl z4))], [(A5 b5, .inl (gI g, 48, .inl z5))], [(A6 b6, .inl (gI g, 32, .inl z6))], [(A7 b7, .inl (gI g, 32, .inl z7))], [(A8 b8, .inl (gI g, 10, .inl z8))]] → ∀ ls : Array Slot, lv_has ls 16 [(0, .ref (A b)), (1, .ref (A2 b2)), (2, .ref (A3 b3)), (3, .ref (A4 b4)), (4, .ref (A5 b5)), (5, .ref (A6 b6)), (6, .ref (A7 b7)), (7, .ref (A8 b8)), (8, .int (v18.1 + w53)), (9, .int (v18.2.1 + w70)), (10, .int 0), (12, .int v18.2.2.2.1), (13, .int v18.2.2.2.2), (14, .int (v18.2.2.2.2 / 16)), (15, .int (v18.2.2.2.2 - v18.2.2.2.2 / 16 * 16))] → W p l e R s m args below meth c H locs 0 0 Q (F0 m 93 ls [.int w93, .int v18.2.2.1]) := by
              intro w93 h H locs hW ls hl
              unfold f_L_road_j93 at h
              refine lv_iadd hx hb dL_road_93 ?_
              refine lv_istore (lv' := [(11, .int (v18.2.2.1 + w93)), (0, .ref (A b)), (1, .ref (A2 b2)), (2, .ref (A3 b3)), (3, .ref (A4 b4)), (4, .ref (A5 b5)), (5, .ref (A6 b6)), (6, .ref (A7 b7)), (7, .ref (A8 b8)), (8, .int (v18.1 + w53)), (9, .int (v18.2.1 + w70)), (10, .int 0), (12, .int v18.2.2.2.1), (13, .int v18.2.2.2.2), (14, .int (v18.2.2.2.2 / 16)), (15, .int (v18.2.2.2.2 - v18.2.2.2.2 / 16 * 16))]) hx hb dL_road_94 hl (by decide) rfl (fun ls hl => ?_)
              refine lv_iload hx hb dL_road_96 (lv_at hl 12 rfl) ?_
              refine lv_aload_n hx hb dL_road_98 rfl (lv_at hl 3 rfl) ?_
              refine lv_iload hx hb dL_road_99 (lv_at hl 13 rfl) ?_
              obtain ⟨g89, h⟩ := q_g h
              refine r_iald C hW 2 0 rfl rfl g89 dL_road_101 ?_
              refine lv_aload hx hb dL_road_102 (lv_at hl 5 rfl) ?_
              refine lv_iload hx hb dL_road_104 (lv_at hl 13 rfl) ?_
              obtain ⟨g90, h⟩ := q_g h
              refine r_iald C hW 4 0 rfl rfl g90 dL_road_106 ?_
              refine lv_iadd hx hb dL_road_107 ?_
              refine lv_iadd hx hb dL_road_108 ?_
              refine lv_istore (lv' := [(12, .int (v18.2.2.2.1 + ((z3 (v18.2.2.2.2).toNatClampNeg) + (z5 (v18.2.2.2.2).toNatClampNeg)))), (11, .int (v18.2.2.1 + w93)), (0, .ref (A b)), (1, .ref (A2 b2)), (2, .ref (A3 b3)), (3, .ref (A4 b4)), (4, .ref (A5 b5)), (5, .ref (A6 b6)), (6, .ref (A7 b7)), (7, .ref (A8 b8)), (8, .int (v18.1 + w53)), (9, .int (v18.2.1 + w70)), (10, .int 0), (13, .int v18.2.2.2.2), (14, .int (v18.2.2.2.2 / 16)), (15, .int (v18.2.2.2.2 - v18.2.2.2.2 / 16 * 16))]) hx hb dL_road_109 hl (by decide) rfl (fun ls hl => ?_)
              refine lv_aload_n hx hb dL_road_111 rfl (lv_at hl 2 rfl) ?_
              refine lv_iload hx hb dL_road_112 (lv_at hl 14 rfl) ?_
              refine lv_iload hx hb dL_road_114 (lv_at hl 15 rfl) ?_
              refine lv_iconst (v := 0) hx hb dL_road_116 (by decide) ?_
              obtain ⟨t91, h92, h⟩ := q_b h
              refine r_cVi C hW (nA := 3) (As := [.int (v18.2.2.2.2 / 16), .int (v18.2.2.2.2 - v18.2.2.2.2 / 16 * 16), .int 0]) (rest := []) (c_X5_cell l g A b x (v18.2.2.2.2 / 16) (v18.2.2.2.2 - v18.2.2.2.2 / 16 * 16) 0 _ h92) gL_road_X5_cell rfl ⟨rfl, wo_X5_cell⟩ (rmk hR rfl rfl) rfl rfl rfl rfl hl.1 (Nat.le_of_ble_eq_true rfl) ⟨by rw [hz.1]; omega, by rw [hz.2]; omega⟩ dL_road_117 (n := 8) (is := [0]) (rs := [1, 2, 3, 4, 5, 6, 7]) (bs' := [wX5 g A b x, [(A2 b2, .inl (gI g, 48, .inl y))], [(A3 b3, .inl (gI g, 48, .inl z3))], [(A4 b4, .inl (gI g, 48, .inl z4))], [(A5 b5, .inl (gI g, 48, .inl z5))], [(A6 b6, .inl (gI g, 32, .inl z6))], [(A7 b7, .inl (gI g, 32, .inl z7))], [(A8 b8, .inl (gI g, 10, .inl z8))]]) rfl rfl pm_135268d1 (List.append_nil _) (List.append_nil _) rfl (fun H locs hW => ?_)
              refine lv_aload_n hx hb dL_road_120 rfl (lv_at hl 3 rfl) ?_
              refine lv_iload hx hb dL_road_121 (lv_at hl 13 rfl) ?_
              obtain ⟨g93, h⟩ := q_g h
              refine r_iald C hW 1 0 rfl rfl g93 dL_road_123 ?_
              have J136 : ∀ (w136 : Int32), f_L_road_j136 x y z3 z4 z5 z8 (lpN (f_L_road_l18 x y z3 z4 z5 z6 z7 z8) n18) v18 w53 w70 w93 t91 w136 = some (r, x') → ∀ (H : Heap) (locs : List Loc), WdG g Z s.heap H locs [wX5 g A b x, [(A2 b2, .inl (gI g, 48, .inl y))], [(A3 b3, .inl (gI g, 48, .inl z3))], [(A4 b4, .inl (gI g, 48, .inl z4))], [(A5 b5, .inl (gI g, 48, .inl z5))], [(A6 b6, .inl (gI g, 32, .inl z6))], [(A7 b7, .inl (gI g, 32, .inl z7))], [(A8 b8, .inl (gI g, 10, .inl z8))]] → ∀ ls : Array Slot, lv_has ls 16 [(0, .ref (A b)), (1, .ref (A2 b2)), (2, .ref (A3 b3)), (3, .ref (A4 b4)), (4, .ref (A5 b5)), (5, .ref (A6 b6)), (6, .ref (A7 b7)), (7, .ref (A8 b8)), (8, .int (v18.1 + w53)), (9, .int (v18.2.1 + w70)), (10, .int 0), (11, .int (v18.2.2.1 + w93)), (12, .int (v18.2.2.2.1 + ((z3 (v18.2.2.2.2).toNatClampNeg) + (z5 (v18.2.2.2.2).toNatClampNeg)))), (13, .int v18.2.2.2.2), (14, .int (v18.2.2.2.2 / 16)), (15, .int (v18.2.2.2.2 - v18.2.2.2.2 / 16 * 16))] → W p l e R s m args below meth c H locs 0 0 Q (F0 m 136 ls [.int w136, .int t91]) := by
                intro w136 h H locs hW ls hl
                unfold f_L_road_j136 at h
                refine lv_icmp_ne (tgt := 289) hx hb dL_road_136 (by decide) (fun e94 => ?_) (fun e94 => ?_)
                · replace h := q_f e94 h
                  refine lv_iconst (v := 0) hx hb dL_road_289 (by decide) ?_
                  cases h
                  refine W.widen (k := 7) (n := 336) (by omega) (by omega) ?_
                  exact E _ _ _ _ [wX5 g A b x, [(A2 b2, .inl (gI g, 48, .inl y))], [(A3 b3, .inl (gI g, 48, .inl z3))], [(A4 b4, .inl (gI g, 48, .inl z4))], [(A5 b5, .inl (gI g, 48, .inl z5))], [(A6 b6, .inl (gI g, 32, .inl z6))], [(A7 b7, .inl (gI g, 32, .inl z7))], [(A8 b8, .inl (gI g, 10, .inl z8))]] (hW.cut (cs := []) rfl) rfl rfl dL_road_290
                · replace h := q_t e94 h
                  refine lv_aload_n hx hb dL_road_139 rfl (lv_at hl 0 rfl) ?_
                  refine lv_iload hx hb dL_road_140 (lv_at hl 14 rfl) ?_
                  refine lv_iload hx hb dL_road_142 (lv_at hl 15 rfl) ?_
                  refine lv_iconst (v := 1) hx hb dL_road_144 (by decide) ?_
                  obtain ⟨t95, h96, h⟩ := q_b h
                  refine r_cVi C hW (nA := 3) (As := [.int (v18.2.2.2.2 / 16), .int (v18.2.2.2.2 - v18.2.2.2.2 / 16 * 16), .int 1]) (rest := []) (c_X5_cell l g A b x (v18.2.2.2.2 / 16) (v18.2.2.2.2 - v18.2.2.2.2 / 16 * 16) 1 _ h96) gL_road_X5_cell rfl ⟨rfl, wo_X5_cell⟩ (rmk hR rfl rfl) rfl rfl rfl rfl hl.1 (Nat.le_of_ble_eq_true rfl) ⟨by rw [hz.1]; omega, by rw [hz.2]; omega⟩ dL_road_145 (n := 8) (is := [0]) (rs := [1, 2, 3, 4, 5, 6, 7]) (bs' := [wX5 g A b x, [(A2 b2, .inl (gI g, 48, .inl y))], [(A3 b3, .inl (gI g, 48, .inl z3))], [(A4 b4, .inl (gI g, 48, .inl z4))], [(A5 b5, .inl (gI g, 48, .inl z5))], [(A6 b6, .inl (gI g, 32, .inl z6))], [(A7 b7, .inl (gI g, 32, .inl z7))], [(A8 b8, .inl (gI g, 10, .inl z8))]]) rfl rfl pm_135268d1 (List.append_nil _) (List.append_nil _) rfl (fun H locs hW => ?_)
                  refine lv_aload_n hx hb dL_road_148 rfl (lv_at hl 2 rfl) ?_
                  refine lv_iload hx hb dL_road_149 (lv_at hl 13 rfl) ?_
                  obtain ⟨g97, h⟩ := q_g h
                  refine r_iald C hW 2 0 rfl rfl g97 dL_road_151 ?_
                  refine lv_icmp_ne (tgt := 289) hx hb dL_road_152 (by decide) (fun e98 => ?_) (fun e98 => ?_)
                  · replace h := q_f e98 h
                    refine lv_iconst (v := 0) hx hb dL_road_289 (by decide) ?_
                    cases h
                    refine W.widen (k := 7) (n := 336) (by omega) (by omega) ?_
                    exact E _ _ _ _ [wX5 g A b x, [(A2 b2, .inl (gI g, 48, .inl y))], [(A3 b3, .inl (gI g, 48, .inl z3))], [(A4 b4, .inl (gI g, 48, .inl z4))], [(A5 b5, .inl (gI g, 48, .inl z5))], [(A6 b6, .inl (gI g, 32, .inl z6))], [(A7 b7, .inl (gI g, 32, .inl z7))], [(A8 b8, .inl (gI g, 10, .inl z8))]] (hW.cut (cs := []) rfl) rfl rfl dL_road_290
                  · replace h := q_t e98 h
                    refine lv_aload_n hx hb dL_road_155 rfl (lv_at hl 0 rfl) ?_
                    refine lv_iload hx hb dL_road_156 (lv_at hl 14 rfl) ?_
                    refine lv_iload hx hb dL_road_158 (lv_at hl 15 rfl) ?_
                    refine lv_iconst (v := 2) hx hb dL_road_160 (by decide) ?_
                    obtain ⟨t99, h100, h⟩ := q_b h
                    refine r_cVi C hW (nA := 3) (As := [.int (v18.2.2.2.2 / 16), .int (v18.2.2.2.2 - v18.2.2.2.2 / 16 * 16), .int 2]) (rest := []) (c_X5_cell l g A b x (v18.2.2.2.2 / 16) (v18.2.2.2.2 - v18.2.2.2.2 / 16 * 16) 2 _ h100) gL_road_X5_cell rfl ⟨rfl, wo_X5_cell⟩ (rmk hR rfl rfl) rfl rfl rfl rfl hl.1 (Nat.le_of_ble_eq_true rfl) ⟨by rw [hz.1]; omega, by rw [hz.2]; omega⟩ dL_road_161 (n := 8) (is := [0]) (rs := [1, 2, 3, 4, 5, 6, 7]) (bs' := [wX5 g A b x, [(A2 b2, .inl (gI g, 48, .inl y))], [(A3 b3, .inl (gI g, 48, .inl z3))], [(A4 b4, .inl (gI g, 48, .inl z4))], [(A5 b5, .inl (gI g, 48, .inl z5))], [(A6 b6, .inl (gI g, 32, .inl z6))], [(A7 b7, .inl (gI g, 32, .inl z7))], [(A8 b8, .inl (gI g, 10, .inl z8))]]) rfl rfl pm_135268d1 (List.append_nil _) (List.append_nil _) rfl (fun H locs hW => ?_)
                    refine lv_aload_n hx hb dL_road_164 rfl (lv_at hl 3 rfl) ?_
                    refine lv_iload hx hb dL_road_165 (lv_at hl 13 rfl) ?_
                    obtain ⟨g101, h⟩ := q_g h
                    refine r_iald C hW 3 0 rfl rfl g101 dL_road_167 ?_
                    have J180 : ∀ (w180 : Int32), f_L_road_j180 x y z3 z4 z5 z8 (lpN (f_L_road_l18 x y z3 z4 z5 z6 z7 z8) n18) v18 w53 w70 w93 t99 w180 = some (r, x') → ∀ (H : Heap) (locs : List Loc), WdG g Z s.heap H locs [wX5 g A b x, [(A2 b2, .inl (gI g, 48, .inl y))], [(A3 b3, .inl (gI g, 48, .inl z3))], [(A4 b4, .inl (gI g, 48, .inl z4))], [(A5 b5, .inl (gI g, 48, .inl z5))], [(A6 b6, .inl (gI g, 32, .inl z6))], [(A7 b7, .inl (gI g, 32, .inl z7))], [(A8 b8, .inl (gI g, 10, .inl z8))]] → ∀ ls : Array Slot, lv_has ls 16 [(0, .ref (A b)), (1, .ref (A2 b2)), (2, .ref (A3 b3)), (3, .ref (A4 b4)), (4, .ref (A5 b5)), (5, .ref (A6 b6)), (6, .ref (A7 b7)), (7, .ref (A8 b8)), (8, .int (v18.1 + w53)), (9, .int (v18.2.1 + w70)), (10, .int 0), (11, .int (v18.2.2.1 + w93)), (12, .int (v18.2.2.2.1 + ((z3 (v18.2.2.2.2).toNatClampNeg) + (z5 (v18.2.2.2.2).toNatClampNeg)))), (13, .int v18.2.2.2.2), (14, .int (v18.2.2.2.2 / 16)), (15, .int (v18.2.2.2.2 - v18.2.2.2.2 / 16 * 16))] → W p l e R s m args below meth c H locs 0 0 Q (F0 m 180 ls [.int w180, .int t99]) := by
                      intro w180 h H locs hW ls hl
                      unfold f_L_road_j180 at h
                      refine lv_icmp_ne (tgt := 289) hx hb dL_road_180 (by decide) (fun e102 => ?_) (fun e102 => ?_)
                      · replace h := q_f e102 h
                        refine lv_iconst (v := 0) hx hb dL_road_289 (by decide) ?_
                        cases h
                        refine W.widen (k := 7) (n := 336) (by omega) (by omega) ?_
                        exact E _ _ _ _ [wX5 g A b x, [(A2 b2, .inl (gI g, 48, .inl y))], [(A3 b3, .inl (gI g, 48, .inl z3))], [(A4 b4, .inl (gI g, 48, .inl z4))], [(A5 b5, .inl (gI g, 48, .inl z5))], [(A6 b6, .inl (gI g, 32, .inl z6))], [(A7 b7, .inl (gI g, 32, .inl z7))], [(A8 b8, .inl (gI g, 10, .inl z8))]] (hW.cut (cs := []) rfl) rfl rfl dL_road_290
                      · replace h := q_t e102 h
                        refine lv_aload_n hx hb dL_road_183 rfl (lv_at hl 0 rfl) ?_
                        refine lv_iload hx hb dL_road_184 (lv_at hl 14 rfl) ?_
                        refine lv_iload hx hb dL_road_186 (lv_at hl 15 rfl) ?_
                        refine lv_iconst (v := 3) hx hb dL_road_188 (by decide) ?_
                        obtain ⟨t103, h104, h⟩ := q_b h
                        refine r_cVi C hW (nA := 3) (As := [.int (v18.2.2.2.2 / 16), .int (v18.2.2.2.2 - v18.2.2.2.2 / 16 * 16), .int 3]) (rest := []) (c_X5_cell l g A b x (v18.2.2.2.2 / 16) (v18.2.2.2.2 - v18.2.2.2.2 / 16 * 16) 3 _ h104) gL_road_X5_cell rfl ⟨rfl, wo_X5_cell⟩ (rmk hR rfl rfl) rfl rfl rfl rfl hl.1 (Nat.le_of_ble_eq_true rfl) ⟨by rw [hz.1]; omega, by rw [hz.2]; omega⟩ dL_road_189 (n := 8) (is := [0]) (rs := [1, 2, 3, 4, 5, 6, 7]) (bs' := [wX5 g A b x, [(A2 b2, .inl (gI g, 48, .inl y))], [(A3 b3, .inl (gI g, 48, .inl z3))], [(A4 b4, .inl (gI g, 48, .inl z4))], [(A5 b5, .inl (gI g, 48, .inl z5))], [(A6 b6, .inl (gI g, 32, .inl z6))], [(A7 b7, .inl (gI g, 32, .inl z7))], [(A8 b8, .inl (gI g, 10, .inl z8))]]) rfl rfl pm_135268d1 (List.append_nil _) (List.append_nil _) rfl (fun H locs hW => ?_)
                        refine lv_aload hx hb dL_road_192 (lv_at hl 4 rfl) ?_
                        refine lv_iload hx hb dL_road_194 (lv_at hl 13 rfl) ?_
                        obtain ⟨g105, h⟩ := q_g h
                        refine r_iald C hW 4 0 rfl rfl g105 dL_road_196 ?_
                        refine lv_icmp_ne (tgt := 289) hx hb dL_road_197 (by decide) (fun e106 => ?_) (fun e106 => ?_)
                        · replace h := q_f e106 h
                          refine lv_iconst (v := 0) hx hb dL_road_289 (by decide) ?_
                          cases h
                          refine W.widen (k := 7) (n := 336) (by omega) (by omega) ?_
                          exact E _ _ _ _ [wX5 g A b x, [(A2 b2, .inl (gI g, 48, .inl y))], [(A3 b3, .inl (gI g, 48, .inl z3))], [(A4 b4, .inl (gI g, 48, .inl z4))], [(A5 b5, .inl (gI g, 48, .inl z5))], [(A6 b6, .inl (gI g, 32, .inl z6))], [(A7 b7, .inl (gI g, 32, .inl z7))], [(A8 b8, .inl (gI g, 10, .inl z8))]] (hW.cut (cs := []) rfl) rfl rfl dL_road_290
                        · replace h := q_t e106 h
                          refine lv_aload_n hx hb dL_road_200 rfl (lv_at hl 0 rfl) ?_
                          refine lv_iload hx hb dL_road_201 (lv_at hl 14 rfl) ?_
                          refine lv_iload hx hb dL_road_203 (lv_at hl 15 rfl) ?_
                          refine lv_iconst (v := 4) hx hb dL_road_205 (by decide) ?_
                          obtain ⟨t107, h108, h⟩ := q_b h
                          refine r_cVi C hW (nA := 3) (As := [.int (v18.2.2.2.2 / 16), .int (v18.2.2.2.2 - v18.2.2.2.2 / 16 * 16), .int 4]) (rest := []) (c_X5_cell l g A b x (v18.2.2.2.2 / 16) (v18.2.2.2.2 - v18.2.2.2.2 / 16 * 16) 4 _ h108) gL_road_X5_cell rfl ⟨rfl, wo_X5_cell⟩ (rmk hR rfl rfl) rfl rfl rfl rfl hl.1 (Nat.le_of_ble_eq_true rfl) ⟨by rw [hz.1]; omega, by rw [hz.2]; omega⟩ dL_road_206 (n := 8) (is := [0]) (rs := [1, 2, 3, 4, 5, 6, 7]) (bs' := [wX5 g A b x, [(A2 b2, .inl (gI g, 48, .inl y))], [(A3 b3, .inl (gI g, 48, .inl z3))], [(A4 b4, .inl (gI g, 48, .inl z4))], [(A5 b5, .inl (gI g, 48, .inl z5))], [(A6 b6, .inl (gI g, 32, .inl z6))], [(A7 b7, .inl (gI g, 32, .inl z7))], [(A8 b8, .inl (gI g, 10, .inl z8))]]) rfl rfl pm_135268d1 (List.append_nil _) (List.append_nil _) rfl (fun H locs hW => ?_)
                          refine lv_aload_n hx hb dL_road_209 rfl (lv_at hl 3 rfl) ?_
                          refine lv_aload hx hb dL_road_210 (lv_at hl 4 rfl) ?_
                          refine lv_aload hx hb dL_road_212 (lv_at hl 7 rfl) ?_
                          refine lv_iload hx hb dL_road_214 (lv_at hl 13 rfl) ?_
                          obtain ⟨t109, h110, h⟩ := q_b h
                          refine r_cSi C hW (nA := 4) (As := [.ref (A4 b4), .ref (A5 b5), .ref (A8 b8), .int v18.2.2.2.2]) (rest := [.int t107]) (c_L_read l g A4 b4 A5 b5 A8 b8 z4 z5 z8 v18.2.2.2.2 _ h110) gL_road_L_read rfl wo_L_read (rmk hR rfl rfl) rfl rfl hl.1 (Nat.le_of_ble_eq_true rfl) ⟨by rw [hz.1]; omega, by rw [hz.2]; omega⟩ dL_road_216 (n := 8) (is := [3, 4, 7]) (rs := [0, 1, 2, 5, 6]) (bs' := [wX5 g A b x, [(A2 b2, .inl (gI g, 48, .inl y))], [(A3 b3, .inl (gI g, 48, .inl z3))], [(A4 b4, .inl (gI g, 48, .inl z4))], [(A5 b5, .inl (gI g, 48, .inl z5))], [(A6 b6, .inl (gI g, 32, .inl z6))], [(A7 b7, .inl (gI g, 32, .inl z7))], [(A8 b8, .inl (gI g, 10, .inl z8))]]) rfl rfl pm_489d17b0 rfl rfl rfl (fun H locs hW => ?_)
                          have J227 : ∀ (w227 : Int32), f_L_road_j227 x y z3 z5 (lpN (f_L_road_l18 x y z3 z4 z5 z6 z7 z8) n18) v18 w53 w70 w93 t107 w227 = some (r, x') → ∀ (H : Heap) (locs : List Loc), WdG g Z s.heap H locs [wX5 g A b x, [(A2 b2, .inl (gI g, 48, .inl y))], [(A3 b3, .inl (gI g, 48, .inl z3))], [(A4 b4, .inl (gI g, 48, .inl z4))], [(A5 b5, .inl (gI g, 48, .inl z5))], [(A6 b6, .inl (gI g, 32, .inl z6))], [(A7 b7, .inl (gI g, 32, .inl z7))], [(A8 b8, .inl (gI g, 10, .inl z8))]] → ∀ ls : Array Slot, lv_has ls 16 [(0, .ref (A b)), (1, .ref (A2 b2)), (2, .ref (A3 b3)), (3, .ref (A4 b4)), (4, .ref (A5 b5)), (5, .ref (A6 b6)), (6, .ref (A7 b7)), (7, .ref (A8 b8)), (8, .int (v18.1 + w53)), (9, .int (v18.2.1 + w70)), (10, .int 0), (11, .int (v18.2.2.1 + w93)), (12, .int (v18.2.2.2.1 + ((z3 (v18.2.2.2.2).toNatClampNeg) + (z5 (v18.2.2.2.2).toNatClampNeg)))), (13, .int v18.2.2.2.2), (14, .int (v18.2.2.2.2 / 16)), (15, .int (v18.2.2.2.2 - v18.2.2.2.2 / 16 * 16))] → W p l e R s m args below meth c H locs 0 0 Q (F0 m 227 ls [.int w227, .int t107]) := by
                            intro w227 h H locs hW ls hl
                            unfold f_L_road_j227 at h
                            refine lv_icmp_ne (tgt := 289) hx hb dL_road_227 (by decide) (fun e111 => ?_) (fun e111 => ?_)
                            · replace h := q_f e111 h
                              refine lv_iconst (v := 0) hx hb dL_road_289 (by decide) ?_
                              cases h
                              refine W.widen (k := 7) (n := 336) (by omega) (by omega) ?_
                              exact E _ _ _ _ [wX5 g A b x, [(A2 b2, .inl (gI g, 48, .inl y))], [(A3 b3, .inl (gI g, 48, .inl z3))], [(A4 b4, .inl (gI g, 48, .inl z4))], [(A5 b5, .inl (gI g, 48, .inl z5))], [(A6 b6, .inl (gI g, 32, .inl z6))], [(A7 b7, .inl (gI g, 32, .inl z7))], [(A8 b8, .inl (gI g, 10, .inl z8))]] (hW.cut (cs := []) rfl) rfl rfl dL_road_290
                            · replace h := q_t e111 h
                              refine lv_aload_n hx hb dL_road_230 rfl (lv_at hl 0 rfl) ?_
                              refine lv_iload hx hb dL_road_231 (lv_at hl 14 rfl) ?_
                              refine lv_iload hx hb dL_road_233 (lv_at hl 15 rfl) ?_
                              refine lv_iconst (v := 5) hx hb dL_road_235 (by decide) ?_
                              obtain ⟨t112, h113, h⟩ := q_b h
                              refine r_cVi C hW (nA := 3) (As := [.int (v18.2.2.2.2 / 16), .int (v18.2.2.2.2 - v18.2.2.2.2 / 16 * 16), .int 5]) (rest := []) (c_X5_cell l g A b x (v18.2.2.2.2 / 16) (v18.2.2.2.2 - v18.2.2.2.2 / 16 * 16) 5 _ h113) gL_road_X5_cell rfl ⟨rfl, wo_X5_cell⟩ (rmk hR rfl rfl) rfl rfl rfl rfl hl.1 (Nat.le_of_ble_eq_true rfl) ⟨by rw [hz.1]; omega, by rw [hz.2]; omega⟩ dL_road_236 (n := 8) (is := [0]) (rs := [1, 2, 3, 4, 5, 6, 7]) (bs' := [wX5 g A b x, [(A2 b2, .inl (gI g, 48, .inl y))], [(A3 b3, .inl (gI g, 48, .inl z3))], [(A4 b4, .inl (gI g, 48, .inl z4))], [(A5 b5, .inl (gI g, 48, .inl z5))], [(A6 b6, .inl (gI g, 32, .inl z6))], [(A7 b7, .inl (gI g, 32, .inl z7))], [(A8 b8, .inl (gI g, 10, .inl z8))]]) rfl rfl pm_135268d1 (List.append_nil _) (List.append_nil _) rfl (fun H locs hW => ?_)
                              refine lv_aload_n hx hb dL_road_239 rfl (lv_at hl 1 rfl) ?_
                              refine lv_iload hx hb dL_road_240 (lv_at hl 14 rfl) ?_
                              refine lv_iload hx hb dL_road_242 (lv_at hl 15 rfl) ?_
                              refine lv_iconst (v := 0) hx hb dL_road_244 (by decide) ?_
                              obtain ⟨t114, h115, h⟩ := q_b h
                              refine r_cSi C hW (nA := 4) (As := [.ref (A2 b2), .int (v18.2.2.2.2 / 16), .int (v18.2.2.2.2 - v18.2.2.2.2 / 16 * 16), .int 0]) (rest := [.int t112]) (c_L_free l g A2 b2 y (v18.2.2.2.2 / 16) (v18.2.2.2.2 - v18.2.2.2.2 / 16 * 16) 0 _ h115) gL_road_L_free rfl wo_L_free (rmk hR rfl rfl) rfl rfl hl.1 (Nat.le_of_ble_eq_true rfl) ⟨by rw [hz.1]; omega, by rw [hz.2]; omega⟩ dL_road_245 (n := 8) (is := [1]) (rs := [0, 2, 3, 4, 5, 6, 7]) (bs' := [wX5 g A b x, [(A2 b2, .inl (gI g, 48, .inl y))], [(A3 b3, .inl (gI g, 48, .inl z3))], [(A4 b4, .inl (gI g, 48, .inl z4))], [(A5 b5, .inl (gI g, 48, .inl z5))], [(A6 b6, .inl (gI g, 32, .inl z6))], [(A7 b7, .inl (gI g, 32, .inl z7))], [(A8 b8, .inl (gI g, 10, .inl z8))]]) rfl rfl pm_3b84167b rfl rfl rfl (fun H locs hW => ?_)
                              have J256 : ∀ (w256 : Int32), f_L_road_j256 x y z3 z5 (lpN (f_L_road_l18 x y z3 z4 z5 z6 z7 z8) n18) v18 w53 w70 w93 t112 w256 = some (r, x') → ∀ (H : Heap) (locs : List Loc), WdG g Z s.heap H locs [wX5 g A b x, [(A2 b2, .inl (gI g, 48, .inl y))], [(A3 b3, .inl (gI g, 48, .inl z3))], [(A4 b4, .inl (gI g, 48, .inl z4))], [(A5 b5, .inl (gI g, 48, .inl z5))], [(A6 b6, .inl (gI g, 32, .inl z6))], [(A7 b7, .inl (gI g, 32, .inl z7))], [(A8 b8, .inl (gI g, 10, .inl z8))]] → ∀ ls : Array Slot, lv_has ls 16 [(0, .ref (A b)), (1, .ref (A2 b2)), (2, .ref (A3 b3)), (3, .ref (A4 b4)), (4, .ref (A5 b5)), (5, .ref (A6 b6)), (6, .ref (A7 b7)), (7, .ref (A8 b8)), (8, .int (v18.1 + w53)), (9, .int (v18.2.1 + w70)), (10, .int 0), (11, .int (v18.2.2.1 + w93)), (12, .int (v18.2.2.2.1 + ((z3 (v18.2.2.2.2).toNatClampNeg) + (z5 (v18.2.2.2.2).toNatClampNeg)))), (13, .int v18.2.2.2.2), (14, .int (v18.2.2.2.2 / 16)), (15, .int (v18.2.2.2.2 - v18.2.2.2.2 / 16 * 16))] → W p l e R s m args below meth c H locs 0 0 Q (F0 m 256 ls [.int w256, .int t112]) := by
                                intro w256 h H locs hW ls hl
                                unfold f_L_road_j256 at h
                                refine lv_icmp_ne (tgt := 289) hx hb dL_road_256 (by decide) (fun e116 => ?_) (fun e116 => ?_)
                                · replace h := q_f e116 h
                                  refine lv_iconst (v := 0) hx hb dL_road_289 (by decide) ?_
                                  cases h
                                  refine W.widen (k := 7) (n := 336) (by omega) (by omega) ?_
                                  exact E _ _ _ _ [wX5 g A b x, [(A2 b2, .inl (gI g, 48, .inl y))], [(A3 b3, .inl (gI g, 48, .inl z3))], [(A4 b4, .inl (gI g, 48, .inl z4))], [(A5 b5, .inl (gI g, 48, .inl z5))], [(A6 b6, .inl (gI g, 32, .inl z6))], [(A7 b7, .inl (gI g, 32, .inl z7))], [(A8 b8, .inl (gI g, 10, .inl z8))]] (hW.cut (cs := []) rfl) rfl rfl dL_road_290
                                · replace h := q_t e116 h
                                  refine lv_aload_n hx hb dL_road_259 rfl (lv_at hl 0 rfl) ?_
                                  refine lv_iload hx hb dL_road_260 (lv_at hl 14 rfl) ?_
                                  refine lv_iload hx hb dL_road_262 (lv_at hl 15 rfl) ?_
                                  refine lv_bipush (v := 6) hx hb dL_road_264 (by decide) ?_
                                  obtain ⟨t117, h118, h⟩ := q_b h
                                  refine r_cVi C hW (nA := 3) (As := [.int (v18.2.2.2.2 / 16), .int (v18.2.2.2.2 - v18.2.2.2.2 / 16 * 16), .int 6]) (rest := []) (c_X5_cell l g A b x (v18.2.2.2.2 / 16) (v18.2.2.2.2 - v18.2.2.2.2 / 16 * 16) 6 _ h118) gL_road_X5_cell rfl ⟨rfl, wo_X5_cell⟩ (rmk hR rfl rfl) rfl rfl rfl rfl hl.1 (Nat.le_of_ble_eq_true rfl) ⟨by rw [hz.1]; omega, by rw [hz.2]; omega⟩ dL_road_266 (n := 8) (is := [0]) (rs := [1, 2, 3, 4, 5, 6, 7]) (bs' := [wX5 g A b x, [(A2 b2, .inl (gI g, 48, .inl y))], [(A3 b3, .inl (gI g, 48, .inl z3))], [(A4 b4, .inl (gI g, 48, .inl z4))], [(A5 b5, .inl (gI g, 48, .inl z5))], [(A6 b6, .inl (gI g, 32, .inl z6))], [(A7 b7, .inl (gI g, 32, .inl z7))], [(A8 b8, .inl (gI g, 10, .inl z8))]]) rfl rfl pm_135268d1 (List.append_nil _) (List.append_nil _) rfl (fun H locs hW => ?_)
                                  refine lv_aload_n hx hb dL_road_269 rfl (lv_at hl 1 rfl) ?_
                                  refine lv_iload hx hb dL_road_270 (lv_at hl 14 rfl) ?_
                                  refine lv_iload hx hb dL_road_272 (lv_at hl 15 rfl) ?_
                                  refine lv_iconst (v := 1) hx hb dL_road_274 (by decide) ?_
                                  obtain ⟨t119, h120, h⟩ := q_b h
                                  refine r_cSi C hW (nA := 4) (As := [.ref (A2 b2), .int (v18.2.2.2.2 / 16), .int (v18.2.2.2.2 - v18.2.2.2.2 / 16 * 16), .int 1]) (rest := [.int t117]) (c_L_free l g A2 b2 y (v18.2.2.2.2 / 16) (v18.2.2.2.2 - v18.2.2.2.2 / 16 * 16) 1 _ h120) gL_road_L_free rfl wo_L_free (rmk hR rfl rfl) rfl rfl hl.1 (Nat.le_of_ble_eq_true rfl) ⟨by rw [hz.1]; omega, by rw [hz.2]; omega⟩ dL_road_275 (n := 8) (is := [1]) (rs := [0, 2, 3, 4, 5, 6, 7]) (bs' := [wX5 g A b x, [(A2 b2, .inl (gI g, 48, .inl y))], [(A3 b3, .inl (gI g, 48, .inl z3))], [(A4 b4, .inl (gI g, 48, .inl z4))], [(A5 b5, .inl (gI g, 48, .inl z5))], [(A6 b6, .inl (gI g, 32, .inl z6))], [(A7 b7, .inl (gI g, 32, .inl z7))], [(A8 b8, .inl (gI g, 10, .inl z8))]]) rfl rfl pm_3b84167b rfl rfl rfl (fun H locs hW => ?_)
                                  have J286 : ∀ (w286 : Int32), f_L_road_j286 x z3 z5 (lpN (f_L_road_l18 x y z3 z4 z5 z6 z7 z8) n18) v18 w53 w70 w93 t117 w286 = some (r, x') → ∀ (H : Heap) (locs : List Loc), WdG g Z s.heap H locs [wX5 g A b x, [(A2 b2, .inl (gI g, 48, .inl y))], [(A3 b3, .inl (gI g, 48, .inl z3))], [(A4 b4, .inl (gI g, 48, .inl z4))], [(A5 b5, .inl (gI g, 48, .inl z5))], [(A6 b6, .inl (gI g, 32, .inl z6))], [(A7 b7, .inl (gI g, 32, .inl z7))], [(A8 b8, .inl (gI g, 10, .inl z8))]] → ∀ ls : Array Slot, lv_has ls 16 [(0, .ref (A b)), (1, .ref (A2 b2)), (2, .ref (A3 b3)), (3, .ref (A4 b4)), (4, .ref (A5 b5)), (5, .ref (A6 b6)), (6, .ref (A7 b7)), (7, .ref (A8 b8)), (8, .int (v18.1 + w53)), (9, .int (v18.2.1 + w70)), (10, .int 0), (11, .int (v18.2.2.1 + w93)), (12, .int (v18.2.2.2.1 + ((z3 (v18.2.2.2.2).toNatClampNeg) + (z5 (v18.2.2.2.2).toNatClampNeg)))), (13, .int v18.2.2.2.2)] → W p l e R s m args below meth c H locs 0 0 Q (F0 m 286 ls [.int w286, .int t117]) := by
                                    intro w286 h H locs hW ls hl
                                    unfold f_L_road_j286 at h
                                    refine lv_icmp_eq (tgt := 291) hx hb dL_road_286 (by decide) (fun e121 => ?_) (fun e121 => ?_)
                                    · replace h := q_t e121 h
                                      refine lv_iinc (v := (v18.2.2.2.2 + 1)) (lv' := [(13, .int (v18.2.2.2.2 + 1)), (0, .ref (A b)), (1, .ref (A2 b2)), (2, .ref (A3 b3)), (3, .ref (A4 b4)), (4, .ref (A5 b5)), (5, .ref (A6 b6)), (6, .ref (A7 b7)), (7, .ref (A8 b8)), (8, .int (v18.1 + w53)), (9, .int (v18.2.1 + w70)), (10, .int 0), (11, .int (v18.2.2.1 + w93)), (12, .int (v18.2.2.2.1 + ((z3 (v18.2.2.2.2).toNatClampNeg) + (z5 (v18.2.2.2.2).toNatClampNeg))))]) hx hb dL_road_291 hl (k := 13) rfl rfl (by decide) rfl (fun ls hl => ?_)
                                      refine lv_goto (tgt := 18) hx hb dL_road_294 (by decide) ?_
                                      exact ih18 ((v18.1 + w53), (v18.2.1 + w70), (v18.2.2.1 + w93), (v18.2.2.2.1 + ((z3 (v18.2.2.2.2).toNatClampNeg) + (z5 (v18.2.2.2.2).toNatClampNeg))), (v18.2.2.2.2 + 1)) h _ _ hW _ (lv_sub hl [1, 2, 3, 4, 5, 6, 7, 8, 9, 10, 11, 12, 13, 0] rfl)
                                    · replace h := q_f e121 h
                                      refine lv_iconst (v := 0) hx hb dL_road_289 (by decide) ?_
                                      cases h
                                      refine W.widen (k := 7) (n := 336) (by omega) (by omega) ?_
                                      exact E _ _ _ _ [wX5 g A b x, [(A2 b2, .inl (gI g, 48, .inl y))], [(A3 b3, .inl (gI g, 48, .inl z3))], [(A4 b4, .inl (gI g, 48, .inl z4))], [(A5 b5, .inl (gI g, 48, .inl z5))], [(A6 b6, .inl (gI g, 32, .inl z6))], [(A7 b7, .inl (gI g, 32, .inl z7))], [(A8 b8, .inl (gI g, 10, .inl z8))]] (hW.cut (cs := []) rfl) rfl rfl dL_road_290
                                  refine lv_if_eq (tgt := 285) hx hb dL_road_278 (by decide) (fun e122 => ?_) (fun e122 => ?_)
                                  · replace h := q_t e122 h
                                    refine lv_iconst (v := 0) hx hb dL_road_285 (by decide) ?_
                                    exact J286 0 h _ _ hW _ (lv_sub hl [0, 1, 2, 3, 4, 5, 6, 7, 8, 9, 10, 11, 12, 13] rfl)
                                  · replace h := q_f e122 h
                                    refine lv_iconst (v := 1) hx hb dL_road_281 (by decide) ?_
                                    refine lv_goto (tgt := 286) hx hb dL_road_282 (by decide) ?_
                                    exact J286 1 h _ _ hW _ (lv_sub hl [0, 1, 2, 3, 4, 5, 6, 7, 8, 9, 10, 11, 12, 13] rfl)
                              refine lv_if_eq (tgt := 255) hx hb dL_road_248 (by decide) (fun e123 => ?_) (fun e123 => ?_)
                              · replace h := q_t e123 h
                                refine lv_iconst (v := 0) hx hb dL_road_255 (by decide) ?_
                                exact J256 0 h _ _ hW _ (lv_sub hl [0, 1, 2, 3, 4, 5, 6, 7, 8, 9, 10, 11, 12, 13, 14, 15] rfl)
                              · replace h := q_f e123 h
                                refine lv_iconst (v := 1) hx hb dL_road_251 (by decide) ?_
                                refine lv_goto (tgt := 256) hx hb dL_road_252 (by decide) ?_
                                exact J256 1 h _ _ hW _ (lv_sub hl [0, 1, 2, 3, 4, 5, 6, 7, 8, 9, 10, 11, 12, 13, 14, 15] rfl)
                          refine lv_if_eq (tgt := 226) hx hb dL_road_219 (by decide) (fun e124 => ?_) (fun e124 => ?_)
                          · replace h := q_t e124 h
                            refine lv_iconst (v := 0) hx hb dL_road_226 (by decide) ?_
                            exact J227 0 h _ _ hW _ (lv_sub hl [0, 1, 2, 3, 4, 5, 6, 7, 8, 9, 10, 11, 12, 13, 14, 15] rfl)
                          · replace h := q_f e124 h
                            refine lv_iconst (v := 1) hx hb dL_road_222 (by decide) ?_
                            refine lv_goto (tgt := 227) hx hb dL_road_223 (by decide) ?_
                            exact J227 1 h _ _ hW _ (lv_sub hl [0, 1, 2, 3, 4, 5, 6, 7, 8, 9, 10, 11, 12, 13, 14, 15] rfl)
                    refine lv_if_ge (tgt := 176) hx hb dL_road_168 (by decide) (fun e125 => ?_) (fun e125 => ?_)
                    · replace h := q_t e125 h
                      refine lv_aload_n hx hb dL_road_176 rfl (lv_at hl 3 rfl) ?_
                      refine lv_iload hx hb dL_road_177 (lv_at hl 13 rfl) ?_
                      obtain ⟨g126, h⟩ := q_g h
                      refine r_iald C hW 3 0 rfl rfl g126 dL_road_179 ?_
                      exact J180 (z4 (v18.2.2.2.2).toNatClampNeg) h _ _ hW _ (lv_sub hl [0, 1, 2, 3, 4, 5, 6, 7, 8, 9, 10, 11, 12, 13, 14, 15] rfl)
                    · replace h := q_f e125 h
                      refine lv_bipush (v := (-6)) hx hb dL_road_171 (by decide) ?_
                      refine lv_goto (tgt := 180) hx hb dL_road_173 (by decide) ?_
                      exact J180 (-6) h _ _ hW _ (lv_sub hl [0, 1, 2, 3, 4, 5, 6, 7, 8, 9, 10, 11, 12, 13, 14, 15] rfl)
              refine lv_if_ge (tgt := 132) hx hb dL_road_124 (by decide) (fun e127 => ?_) (fun e127 => ?_)
              · replace h := q_t e127 h
                refine lv_aload_n hx hb dL_road_132 rfl (lv_at hl 3 rfl) ?_
                refine lv_iload hx hb dL_road_133 (lv_at hl 13 rfl) ?_
                obtain ⟨g128, h⟩ := q_g h
                refine r_iald C hW 1 0 rfl rfl g128 dL_road_135 ?_
                exact J136 (y (v18.2.2.2.2).toNatClampNeg) h _ _ hW _ (lv_sub hl [2, 3, 4, 5, 6, 7, 8, 9, 10, 11, 12, 1, 0, 13, 14, 15] rfl)
              · replace h := q_f e127 h
                refine lv_bipush (v := (-6)) hx hb dL_road_127 (by decide) ?_
                refine lv_goto (tgt := 136) hx hb dL_road_129 (by decide) ?_
                exact J136 (-6) h _ _ hW _ (lv_sub hl [2, 3, 4, 5, 6, 7, 8, 9, 10, 11, 12, 1, 0, 13, 14, 15] rfl)
            refine lv_if_eq (tgt := 92) hx hb dL_road_85 (by decide) (fun e129 => ?_) (fun e129 => ?_)
            · replace h := q_t e129 h
              refine lv_iconst (v := 0) hx hb dL_road_92 (by decide) ?_
              exact J93 0 h _ _ hW _ (lv_sub hl [1, 2, 3, 4, 5, 6, 7, 8, 9, 0, 10, 12, 13, 14, 15] rfl)
            · replace h := q_f e129 h
              refine lv_iconst (v := 1) hx hb dL_road_88 (by decide) ?_
              refine lv_goto (tgt := 93) hx hb dL_road_89 (by decide) ?_
              exact J93 1 h _ _ hW _ (lv_sub hl [1, 2, 3, 4, 5, 6, 7, 8, 9, 0, 10, 12, 13, 14, 15] rfl)
          refine lv_if_lt (tgt := 69) hx hb dL_road_62 (by decide) (fun e130 => ?_) (fun e130 => ?_)
          · replace h := q_t e130 h
            refine lv_iconst (v := 0) hx hb dL_road_69 (by decide) ?_
            exact J70 0 h _ _ hW _ (lv_sub hl [1, 2, 3, 4, 5, 6, 7, 8, 0, 10, 11, 12, 13, 14, 15] rfl)
          · replace h := q_f e130 h
            refine lv_iconst (v := 1) hx hb dL_road_65 (by decide) ?_
            refine lv_goto (tgt := 70) hx hb dL_road_66 (by decide) ?_
            exact J70 1 h _ _ hW _ (lv_sub hl [1, 2, 3, 4, 5, 6, 7, 8, 0, 10, 11, 12, 13, 14, 15] rfl)
        refine lv_if_lt (tgt := 52) hx hb dL_road_45 (by decide) (fun e131 => ?_) (fun e131 => ?_)
        · replace h := q_t e131 h
          refine lv_iconst (v := 0) hx hb dL_road_52 (by decide) ?_
          exact J53 0 h _ _ hW _ (lv_sub hl [2, 3, 4, 5, 6, 7, 8, 9, 11, 12, 13, 14, 15, 1, 0] rfl)
        · replace h := q_f e131 h
          refine lv_iconst (v := 1) hx hb dL_road_48 (by decide) ?_
          refine lv_goto (tgt := 53) hx hb dL_road_49 (by decide) ?_
          exact J53 1 h _ _ hW _ (lv_sub hl [2, 3, 4, 5, 6, 7, 8, 9, 11, 12, 13, 14, 15, 1, 0] rfl)
  exact L18 3000 (0, 0, 0, 0, 0) h _ _ hW _ (lv_sub hl [6, 7, 8, 9, 10, 11, 12, 13, 5, 4, 3, 2, 1, 0] rfl)
