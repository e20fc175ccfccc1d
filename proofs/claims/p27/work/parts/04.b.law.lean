/-! the script's numbers -/
def f_L_cell (L : Nat) (xs : Nat → Int32) (p1 : Int32) : Option Int32 :=
if Int32.ofNat L ≤ p1 then some (32452867 * p1 + 15485863)
else (
if p1 < 0 ∨ L ≤ p1.toNatClampNeg then none else
some (xs p1.toNatClampNeg))
theorem wo_L_cell : wordsOk yL_cell 2 := by decide +kernel
theorem c_L_cell (l : Launch) (g : GG) (b L : Nat) (xs : Nat → Int32) (p1 r : Int32) (h : f_L_cell L xs p1 = some r) : CS l yL_cell wsL_cell 0 0 g [.ref b, .int p1] b L xs r := by
  refine CS.mk (own := RL) (by decide) rfl rfl (Nat.le_of_ble_eq_true rfl) ?_
  intro p e R s m args below meth c Z Q C E hX hbl hbZ hR H hW ls hl
  have hx := C.1.1
  have hb := C.1.2.1
  have hown := C.1.2.2.2.1
  replace hl : lv_has ls 2 [(0, .ref b), (1, .int p1)] := hl
  unfold f_L_cell at h
  refine lv_iload_n hx hb dL_cell_0 rfl (lv_at hl 1 rfl) ?_
  refine lv_aload_n hx hb dL_cell_1 rfl (lv_at hl 0 rfl) ?_
  refine va_slen hx hb hX hbl hbZ hW.2.2 dL_cell_2 ?_
  refine lv_icmp_ge (tgt := 12) hx hb dL_cell_3 (by decide) (fun e1 => ?_) (fun e1 => ?_)
  · replace h := q_t e1 h
    refine lv_ldc (v := 32452867) hx hb hown (C.1.2.2.2.2 _ (List.mem_of_getElem? (i := 1) rfl)) dL_cell_12 ?_
    refine lv_iload_n hx hb dL_cell_14 rfl (lv_at hl 1 rfl) ?_
    refine lv_imul hx hb dL_cell_15 ?_
    refine lv_ldc (v := 15485863) hx hb hown (C.1.2.2.2.2 _ (List.mem_of_getElem? (i := 2) rfl)) dL_cell_16 ?_
    refine lv_iadd hx hb dL_cell_18 ?_
    have h2 := Option.some.inj h
    subst h2
    exact E _ _ _ _ _ hW rfl rfl dL_cell_19
  · replace h := q_f e1 h
    obtain ⟨g1, h⟩ := q_g h
    refine lv_aload_n hx hb dL_cell_6 rfl (lv_at hl 0 rfl) ?_
    refine lv_iload_n hx hb dL_cell_7 rfl (lv_at hl 1 rfl) ?_
    refine va_sld hx hb hX hbl hbZ hW.2.2 g1 dL_cell_8 ?_
    refine lv_goto (tgt := 19) hx hb dL_cell_9 (by decide) ?_
    cases h
    exact E _ _ _ _ _ hW rfl rfl dL_cell_19
theorem pm_5c3e962e : ([] ++ [0, 1, 2, 3, 4, 5, 6, 7] : List Nat).Perm (List.range 8) := by decide
theorem pm_b1a69803 : ([2, 4, 6, 7] ++ [0, 1, 3, 5] : List Nat).Perm (List.range 8) := by decide
theorem pm_d474960e : ([1, 2, 3, 4, 5, 6, 7] ++ [0] : List Nat).Perm (List.range 8) := by decide
def f_L_law_j1245 (k111 : (Int32 × TX5s × TV48s × TV48s × TV48s × TV48s × TV32s × TV32s × TV10s) → Option (Int32)) (v111 : Int32 × TX5s × TV48s × TV48s × TV48s × TV48s × TV32s × TV32s × TV10s) (w960 : Int32 × TX5s × TV48s × TV48s × TV48s × TV48s × TV32s × TV32s × TV10s) (t18 : Int32 × TX5s) (t44 : Int32) (w1245 : Int32) : Option (Int32) :=
if t44 = w1245 then (
k111 ((v111.1 + 1), t18.2, w960.2.2.1, w960.2.2.2.1, w960.2.2.2.2.1, w960.2.2.2.2.2.1, w960.2.2.2.2.2.2.1, w960.2.2.2.2.2.2.2.1, w960.2.2.2.2.2.2.2.2))
else (
some 0)
def f_L_law_j1173 (k111 : (Int32 × TX5s × TV48s × TV48s × TV48s × TV48s × TV32s × TV32s × TV10s) → Option (Int32)) (v111 : Int32 × TX5s × TV48s × TV48s × TV48s × TV48s × TV32s × TV32s × TV10s) (w960 : Int32 × TX5s × TV48s × TV48s × TV48s × TV48s × TV32s × TV32s × TV10s) (t18 : Int32 × TX5s) (t26 : Int32) (t28 : Int32) (v1090 : Int32 × Int32) (t34 : Int32) (w1173 : Int32) : Option (Int32) :=
(f_L_low (t26 >>> ((9 : Int32) &&& 31)) 2).bind fun t36 =>
(f_X5_readableFor t18.2 (t28 / 16) (t28 - t28 / 16 * 16)).bind fun t40 =>
if t40 = v1090.1 then (
(f_X5_mayChange t18.2 t34 w1173 (t28 - t28 / 16 * 16) t36).bind fun t44 =>
(f_L_change w960.2.2.1 w960.2.2.2.2.2.2.1 t34 w1173 (t28 - t28 / 16 * 16) t36).bind fun t47 =>
if t47 = 0 then (
f_L_law_j1245 k111 v111 w960 t18 t44 0)
else (
f_L_law_j1245 k111 v111 w960 t18 t44 1))
else (
some 0)
def f_L_law_j1141 (k111 : (Int32 × TX5s × TV48s × TV48s × TV48s × TV48s × TV32s × TV32s × TV10s) → Option (Int32)) (v111 : Int32 × TX5s × TV48s × TV48s × TV48s × TV48s × TV32s × TV32s × TV10s) (w960 : Int32 × TX5s × TV48s × TV48s × TV48s × TV48s × TV32s × TV32s × TV10s) (t18 : Int32 × TX5s) (t26 : Int32) (t28 : Int32) (v1090 : Int32 × Int32) (w1141 : Unit) : Option (Int32) :=
(f_L_low (t26 >>> ((6 : Int32) &&& 31)) 3).bind fun t34 =>
if t34 = 1 then (
(f_L_low (t26 >>> ((8 : Int32) &&& 31)) 2).bind fun t52 =>
f_L_law_j1173 k111 v111 w960 t18 t26 t28 v1090 t34 (2 * t52))
else (
f_L_law_j1173 k111 v111 w960 t18 t26 t28 v1090 t34 1)
def f_L_law_l1090 (k111 : (Int32 × TX5s × TV48s × TV48s × TV48s × TV48s × TV32s × TV32s × TV10s) → Option (Int32)) (v111 : Int32 × TX5s × TV48s × TV48s × TV48s × TV48s × TV32s × TV32s × TV10s) (w960 : Int32 × TX5s × TV48s × TV48s × TV48s × TV48s × TV32s × TV32s × TV10s) (t18 : Int32 × TX5s) (t26 : Int32) (t28 : Int32) (w1088 : Int32) (k1090 : (Int32 × Int32) → Option (Int32)) (v1090 : Int32 × Int32) : Option (Int32) :=
if t28 < 0 ∨ 48 ≤ (t28).toNatClampNeg then none else
if (w960.2.2.2.2.1 (t28).toNatClampNeg) < 0 then (
f_L_law_j1141 k111 v111 w960 t18 t26 t28 v1090 ())
else (
if (0 : Int32) < 0 ∨ 10 ≤ (0 : Int32).toNatClampNeg then none else
if v1090.2 < (w960.2.2.2.2.2.2.2.2 (0 : Int32).toNatClampNeg) then (
f_L_law_j1141 k111 v111 w960 t18 t26 t28 v1090 ())
else (
if v1090.1 < 0 then (
f_L_law_j1141 k111 v111 w960 t18 t26 t28 v1090 ())
else (
if v1090.1 = 300 then (
k1090 ((-6), (v1090.2 - w1088)))
else (
k1090 ((v1090.1 + 1), (v1090.2 - w1088))))))
def f_L_law_j1088 (k111 : (Int32 × TX5s × TV48s × TV48s × TV48s × TV48s × TV32s × TV32s × TV10s) → Option (Int32)) (v111 : Int32 × TX5s × TV48s × TV48s × TV48s × TV48s × TV32s × TV32s × TV10s) (w960 : Int32 × TX5s × TV48s × TV48s × TV48s × TV48s × TV32s × TV32s × TV10s) (t18 : Int32 × TX5s) (t26 : Int32) (t28 : Int32) (w1037 : Int32) (w1088 : Int32) : Option (Int32) :=
lpN (f_L_law_l1090 k111 v111 w960 t18 t26 t28 w1088) 3000 (w1037, (w960.2.2.2.2.2.1 (t28).toNatClampNeg))
def f_L_law_j1063 (k111 : (Int32 × TX5s × TV48s × TV48s × TV48s × TV48s × TV32s × TV32s × TV10s) → Option (Int32)) (v111 : Int32 × TX5s × TV48s × TV48s × TV48s × TV48s × TV32s × TV32s × TV10s) (w960 : Int32 × TX5s × TV48s × TV48s × TV48s × TV48s × TV32s × TV32s × TV10s) (t18 : Int32 × TX5s) (t26 : Int32) (t28 : Int32) (w1037 : Int32) (w1063 : Unit) : Option (Int32) :=
if (2 + (t28 / 16)) < 0 ∨ 10 ≤ (2 + (t28 / 16)).toNatClampNeg then none else
f_L_law_j1088 k111 v111 w960 t18 t26 t28 w1037 ((w960.2.2.2.2.2.2.2.2 (2 + (t28 / 16)).toNatClampNeg) / 2)
def f_L_law_j1037 (k111 : (Int32 × TX5s × TV48s × TV48s × TV48s × TV48s × TV32s × TV32s × TV10s) → Option (Int32)) (v111 : Int32 × TX5s × TV48s × TV48s × TV48s × TV48s × TV32s × TV32s × TV10s) (w960 : Int32 × TX5s × TV48s × TV48s × TV48s × TV48s × TV32s × TV32s × TV10s) (t18 : Int32 × TX5s) (t26 : Int32) (t28 : Int32) (w1037 : Int32) : Option (Int32) :=
if t28 < 0 ∨ 48 ≤ (t28).toNatClampNeg then none else
if t28 < 0 ∨ 48 ≤ (t28).toNatClampNeg then none else
if (w960.2.2.2.2.1 (t28).toNatClampNeg) = 0 then (
f_L_law_j1063 k111 v111 w960 t18 t26 t28 w1037 ())
else (
if t28 < 0 ∨ 48 ≤ (t28).toNatClampNeg then none else
if (w960.2.2.2.2.1 (t28).toNatClampNeg) = 1 then (
f_L_law_j1063 k111 v111 w960 t18 t26 t28 w1037 ())
else (
if (2 + (t28 / 16)) < 0 ∨ 10 ≤ (2 + (t28 / 16)).toNatClampNeg then none else
f_L_law_j1088 k111 v111 w960 t18 t26 t28 w1037 (w960.2.2.2.2.2.2.2.2 (2 + (t28 / 16)).toNatClampNeg)))
def f_L_law_j960 (L : Nat) (xs : Nat → Int32) (k111 : (Int32 × TX5s × TV48s × TV48s × TV48s × TV48s × TV32s × TV32s × TV10s) → Option (Int32)) (v111 : Int32 × TX5s × TV48s × TV48s × TV48s × TV48s × TV32s × TV32s × TV10s) (w960 : Int32 × TX5s × TV48s × TV48s × TV48s × TV48s × TV32s × TV32s × TV10s) : Option (Int32) :=
if w960.1 = 0 then (
some 0)
else (
(f_L_road w960.2.1 w960.2.2.1 w960.2.2.2.1 w960.2.2.2.2.1 w960.2.2.2.2.2.1 w960.2.2.2.2.2.2.1 w960.2.2.2.2.2.2.2.1 w960.2.2.2.2.2.2.2.2).bind fun t18 =>
if t18.1 = 0 then (
some 0)
else (
(f_X5_bestNight t18.2).bind fun t21 =>
(f_L_best w960.2.2.2.1 w960.2.2.2.2.2.1 w960.2.2.2.2.2.2.2.1 w960.2.2.2.2.2.2.2.2).bind fun t23 =>
if t21 = t23 then (
(f_L_cell L xs (72 + v111.1)).bind fun t26 =>
(f_L_low t26 48).bind fun t28 =>
if t28 < 0 ∨ 48 ≤ (t28).toNatClampNeg then none else
if 0 ≤ (w960.2.2.2.2.1 (t28).toNatClampNeg) then (
f_L_law_j1037 k111 v111 w960 t18 t26 t28 0)
else (
f_L_law_j1037 k111 v111 w960 t18 t26 t28 (-6)))
else (
some 0)))
def f_L_law_j958 (L : Nat) (xs : Nat → Int32) (k111 : (Int32 × TX5s × TV48s × TV48s × TV48s × TV48s × TV32s × TV32s × TV10s) → Option (Int32)) (v111 : Int32 × TX5s × TV48s × TV48s × TV48s × TV48s × TV32s × TV32s × TV10s) (v909 : Int32 × Int32 × TX5s × TV48s × TV48s × TV48s × TV48s × TV32s × TV32s × TV10s) (t80 : Int32 × TX5s) (w958 : Int32) : Option (Int32) :=
f_L_law_j960 L xs k111 v111 (w958, t80.2, v909.2.2.2.1, v909.2.2.2.2.1, v909.2.2.2.2.2.1, v909.2.2.2.2.2.2.1, v909.2.2.2.2.2.2.2.1, v909.2.2.2.2.2.2.2.2.1, v909.2.2.2.2.2.2.2.2.2)
def f_L_law_l909 (L : Nat) (xs : Nat → Int32) (k111 : (Int32 × TX5s × TV48s × TV48s × TV48s × TV48s × TV32s × TV32s × TV10s) → Option (Int32)) (v111 : Int32 × TX5s × TV48s × TV48s × TV48s × TV48s × TV32s × TV32s × TV10s) (t77 : Int32) (k909 : (Int32 × Int32 × TX5s × TV48s × TV48s × TV48s × TV48s × TV32s × TV32s × TV10s) → Option (Int32)) (v909 : Int32 × Int32 × TX5s × TV48s × TV48s × TV48s × TV48s × TV32s × TV32s × TV10s) : Option (Int32) :=
if (1 + t77) ≤ v909.2.1 then (
(f_X5_pass v909.2.2.1 (1 + t77)).bind fun t80 =>
if t80.1 = v909.1 then (
f_L_law_j958 L xs k111 v111 v909 t80 1)
else (
f_L_law_j958 L xs k111 v111 v909 t80 0))
else (
(f_L_day v909.2.2.2.1 v909.2.2.2.2.1 v909.2.2.2.2.2.1 v909.2.2.2.2.2.2.1 v909.2.2.2.2.2.2.2.1 v909.2.2.2.2.2.2.2.2.1 v909.2.2.2.2.2.2.2.2.2).bind fun t83 =>
k909 ((v909.1 + t83.1), (v909.2.1 + 1), v909.2.2.1, t83.2.1, t83.2.2.1, t83.2.2.2.1, t83.2.2.2.2.1, t83.2.2.2.2.2.1, t83.2.2.2.2.2.2.1, t83.2.2.2.2.2.2.2))
def f_L_law_j897 (L : Nat) (xs : Nat → Int32) (k111 : (Int32 × TX5s × TV48s × TV48s × TV48s × TV48s × TV32s × TV32s × TV10s) → Option (Int32)) (v111 : Int32 × TX5s × TV48s × TV48s × TV48s × TV48s × TV32s × TV32s × TV10s) (t9 : Int32) (w897 : Int32) : Option (Int32) :=
(f_L_low (t9 >>> ((11 : Int32) &&& 31)) w897).bind fun t77 =>
lpN (f_L_law_l909 L xs k111 v111 t77) 3000 (0, 0, v111.2.1, v111.2.2.1, v111.2.2.2.1, v111.2.2.2.2.1, v111.2.2.2.2.2.1, v111.2.2.2.2.2.2.1, v111.2.2.2.2.2.2.2.1, v111.2.2.2.2.2.2.2.2)
def f_L_law_j868 (L : Nat) (xs : Nat → Int32) (k111 : (Int32 × TX5s × TV48s × TV48s × TV48s × TV48s × TV32s × TV32s × TV10s) → Option (Int32)) (v111 : Int32 × TX5s × TV48s × TV48s × TV48s × TV48s × TV32s × TV32s × TV10s) (w860 : Int32 × TX5s × TV48s × TV48s × TV48s × TV48s × TV32s × TV32s × TV10s) (w868 : Int32) : Option (Int32) :=
f_L_law_j960 L xs k111 v111 (w868, w860.2.1, w860.2.2.1, w860.2.2.2.1, w860.2.2.2.2.1, w860.2.2.2.2.2.1, w860.2.2.2.2.2.2.1, w860.2.2.2.2.2.2.2.1, w860.2.2.2.2.2.2.2.2)
def f_L_law_j860 (L : Nat) (xs : Nat → Int32) (k111 : (Int32 × TX5s × TV48s × TV48s × TV48s × TV48s × TV32s × TV32s × TV10s) → Option (Int32)) (v111 : Int32 × TX5s × TV48s × TV48s × TV48s × TV48s × TV32s × TV32s × TV10s) (t89 : Int32 × TX5s) (w860 : Int32 × TX5s × TV48s × TV48s × TV48s × TV48s × TV32s × TV32s × TV10s) : Option (Int32) :=
if t89.1 = w860.1 then (
f_L_law_j868 L xs k111 v111 w860 1)
else (
f_L_law_j868 L xs k111 v111 w860 0)
def f_L_law_j826 (L : Nat) (xs : Nat → Int32) (k111 : (Int32 × TX5s × TV48s × TV48s × TV48s × TV48s × TV32s × TV32s × TV10s) → Option (Int32)) (v111 : Int32 × TX5s × TV48s × TV48s × TV48s × TV48s × TV32s × TV32s × TV10s) (t15 : Int32) (t86 : Int32) (w826 : Int32) : Option (Int32) :=
(f_X5_night v111.2.1 t15 t86).bind fun t89 =>
if w826 = 0 then (
f_L_law_j860 L xs k111 v111 t89 ((-3), t89.2, v111.2.2.1, v111.2.2.2.1, v111.2.2.2.2.1, v111.2.2.2.2.2.1, v111.2.2.2.2.2.2.1, v111.2.2.2.2.2.2.2.1, v111.2.2.2.2.2.2.2.2))
else (
(f_L_night v111.2.2.2.1 v111.2.2.2.2.2.1 v111.2.2.2.2.2.2.2.1 v111.2.2.2.2.2.2.2.2 t15 t86).bind fun t93 =>
f_L_law_j860 L xs k111 v111 t89 (t93.1, t89.2, v111.2.2.1, t93.2.1, v111.2.2.2.2.1, t93.2.2.1, v111.2.2.2.2.2.2.1, t93.2.2.2.1, t93.2.2.2.2))
def f_L_law_j790 (L : Nat) (xs : Nat → Int32) (k111 : (Int32 × TX5s × TV48s × TV48s × TV48s × TV48s × TV32s × TV32s × TV10s) → Option (Int32)) (v111 : Int32 × TX5s × TV48s × TV48s × TV48s × TV48s × TV32s × TV32s × TV10s) (t98 : Int32 × TX5s) (w765 : Int32) (w790 : Int32) : Option (Int32) :=
if (5 : Int32) < 0 ∨ 10 ≤ (5 : Int32).toNatClampNeg then none else
f_L_law_j960 L xs k111 v111 (w765, t98.2, v111.2.2.1, v111.2.2.2.1, v111.2.2.2.2.1, v111.2.2.2.2.2.1, v111.2.2.2.2.2.2.1, v111.2.2.2.2.2.2.2.1, (upd v111.2.2.2.2.2.2.2.2 (5 : Int32).toNatClampNeg ((v111.2.2.2.2.2.2.2.2 (5 : Int32).toNatClampNeg) + w790)))
def f_L_law_j765 (L : Nat) (xs : Nat → Int32) (k111 : (Int32 × TX5s × TV48s × TV48s × TV48s × TV48s × TV32s × TV32s × TV10s) → Option (Int32)) (v111 : Int32 × TX5s × TV48s × TV48s × TV48s × TV48s × TV32s × TV32s × TV10s) (t96 : Int32) (t98 : Int32 × TX5s) (w765 : Int32) : Option (Int32) :=
if (5 : Int32) < 0 ∨ 10 ≤ (5 : Int32).toNatClampNeg then none else
if (5 : Int32) < 0 ∨ 10 ≤ (5 : Int32).toNatClampNeg then none else
if ((v111.2.2.2.2.2.2.2.2 (5 : Int32).toNatClampNeg) + (1 + t96)) ≤ 99 then (
f_L_law_j790 L xs k111 v111 t98 w765 (1 + t96))
else (
f_L_law_j790 L xs k111 v111 t98 w765 0)
def f_L_law_j757 (L : Nat) (xs : Nat → Int32) (k111 : (Int32 × TX5s × TV48s × TV48s × TV48s × TV48s × TV32s × TV32s × TV10s) → Option (Int32)) (v111 : Int32 × TX5s × TV48s × TV48s × TV48s × TV48s × TV32s × TV32s × TV10s) (t96 : Int32) (t98 : Int32 × TX5s) (w757 : Int32) : Option (Int32) :=
if t98.1 = w757 then (
f_L_law_j765 L xs k111 v111 t96 t98 1)
else (
f_L_law_j765 L xs k111 v111 t96 t98 0)
def f_L_law_j692 (L : Nat) (xs : Nat → Int32) (k111 : (Int32 × TX5s × TV48s × TV48s × TV48s × TV48s × TV32s × TV32s × TV10s) → Option (Int32)) (v111 : Int32 × TX5s × TV48s × TV48s × TV48s × TV48s × TV32s × TV32s × TV10s) (t13 : Int32) (t108 : Int32) (t110 : Int32 × TX5s) (w692 : Int32) : Option (Int32) :=
if (2 + t13) < 0 ∨ 10 ≤ (2 + t13).toNatClampNeg then none else
f_L_law_j960 L xs k111 v111 (w692, t110.2, v111.2.2.1, v111.2.2.2.1, v111.2.2.2.2.1, v111.2.2.2.2.2.1, v111.2.2.2.2.2.2.1, v111.2.2.2.2.2.2.2.1, (upd v111.2.2.2.2.2.2.2.2 (2 + t13).toNatClampNeg t108))
def f_L_law_j638 (L : Nat) (xs : Nat → Int32) (k111 : (Int32 × TX5s × TV48s × TV48s × TV48s × TV48s × TV32s × TV32s × TV10s) → Option (Int32)) (v111 : Int32 × TX5s × TV48s × TV48s × TV48s × TV48s × TV32s × TV32s × TV10s) (t115 : Int32) (t117 : Int32) (t119 : Int32 × TX5s) (w638 : Int32) : Option (Int32) :=
if t115 < 0 ∨ 10 ≤ (t115).toNatClampNeg then none else
f_L_law_j960 L xs k111 v111 (w638, t119.2, v111.2.2.1, v111.2.2.2.1, v111.2.2.2.2.1, v111.2.2.2.2.2.1, v111.2.2.2.2.2.2.1, v111.2.2.2.2.2.2.2.1, (upd v111.2.2.2.2.2.2.2.2 (t115).toNatClampNeg (1 + t117)))
def f_L_law_j611 (L : Nat) (xs : Nat → Int32) (k111 : (Int32 × TX5s × TV48s × TV48s × TV48s × TV48s × TV32s × TV32s × TV10s) → Option (Int32)) (v111 : Int32 × TX5s × TV48s × TV48s × TV48s × TV48s × TV32s × TV32s × TV10s) (t9 : Int32) (t115 : Int32) (w611 : Int32) : Option (Int32) :=
(f_L_low (t9 >>> ((12 : Int32) &&& 31)) w611).bind fun t117 =>
(f_X5_set v111.2.1 t115 (1 + t117)).bind fun t119 =>
if t115 < 0 ∨ 10 ≤ (t115).toNatClampNeg then none else
if t119.1 = (v111.2.2.2.2.2.2.2.2 (t115).toNatClampNeg) then (
f_L_law_j638 L xs k111 v111 t115 t117 t119 1)
else (
f_L_law_j638 L xs k111 v111 t115 t117 t119 0)
def f_L_law_j575 (L : Nat) (xs : Nat → Int32) (k111 : (Int32 × TX5s × TV48s × TV48s × TV48s × TV48s × TV32s × TV32s × TV10s) → Option (Int32)) (v111 : Int32 × TX5s × TV48s × TV48s × TV48s × TV48s × TV32s × TV32s × TV10s) (t9 : Int32) (t11 : Int32) (t13 : Int32) (t15 : Int32) (w575 : Unit) : Option (Int32) :=
if t11 = 13 then (
(f_L_low (t9 >>> ((11 : Int32) &&& 31)) 2).bind fun t115 =>
if t115 = 0 then (
f_L_law_j611 L xs k111 v111 t9 t115 100)
else (
f_L_law_j611 L xs k111 v111 t9 t115 40))
else (
if t11 = 14 then (
(f_L_low (t9 >>> ((11 : Int32) &&& 31)) 21).bind fun t108 =>
(f_X5_traffic v111.2.1 t13 t108).bind fun t110 =>
if (2 + t13) < 0 ∨ 10 ≤ (2 + t13).toNatClampNeg then none else
if t110.1 = (v111.2.2.2.2.2.2.2.2 (2 + t13).toNatClampNeg) then (
f_L_law_j692 L xs k111 v111 t13 t108 t110 1)
else (
f_L_law_j692 L xs k111 v111 t13 t108 t110 0))
else (
if t11 = 15 then (
(f_L_low (t9 >>> ((11 : Int32) &&& 31)) 99).bind fun t96 =>
(f_X5_bring v111.2.1 (1 + t96)).bind fun t98 =>
if (5 : Int32) < 0 ∨ 10 ≤ (5 : Int32).toNatClampNeg then none else
if ((v111.2.2.2.2.2.2.2.2 (5 : Int32).toNatClampNeg) + (1 + t96)) ≤ 99 then (
if (5 : Int32) < 0 ∨ 10 ≤ (5 : Int32).toNatClampNeg then none else
f_L_law_j757 L xs k111 v111 t96 t98 ((v111.2.2.2.2.2.2.2.2 (5 : Int32).toNatClampNeg) + (1 + t96)))
else (
f_L_law_j757 L xs k111 v111 t96 t98 (-4)))
else (
if 18 ≤ t11 then (
(f_L_low (t9 >>> ((25 : Int32) &&& 31)) 3).bind fun t75 =>
if t75 = 0 then (
f_L_law_j897 L xs k111 v111 t9 12)
else (
f_L_law_j897 L xs k111 v111 t9 4))
else (
(f_L_low (t9 >>> ((11 : Int32) &&& 31)) 16).bind fun t86 =>
if (5 : Int32) < 0 ∨ 10 ≤ (5 : Int32).toNatClampNeg then none else
if (v111.2.2.2.2.2.2.2.2 (5 : Int32).toNatClampNeg) ≤ 0 then (
f_L_law_j826 L xs k111 v111 t15 t86 0)
else (
f_L_law_j826 L xs k111 v111 t15 t86 1)))))
def f_L_law_j548 (L : Nat) (xs : Nat → Int32) (k111 : (Int32 × TX5s × TV48s × TV48s × TV48s × TV48s × TV32s × TV32s × TV10s) → Option (Int32)) (v111 : Int32 × TX5s × TV48s × TV48s × TV48s × TV48s × TV32s × TV32s × TV10s) (t13 : Int32) (t15 : Int32) (t129 : Int32 × TX5s) (w548 : Int32) : Option (Int32) :=
if ((16 * t13) + t15) < 0 ∨ 48 ≤ ((16 * t13) + t15).toNatClampNeg then none else
if ((16 * t13) + t15) < 0 ∨ 48 ≤ ((16 * t13) + t15).toNatClampNeg then none else
if ((16 * t13) + t15) < 0 ∨ 48 ≤ ((16 * t13) + t15).toNatClampNeg then none else
if ((16 * t13) + t15) < 0 ∨ 48 ≤ ((16 * t13) + t15).toNatClampNeg then none else
f_L_law_j960 L xs k111 v111 (w548, t129.2, (upd v111.2.2.1 ((16 * t13) + t15).toNatClampNeg (-1)), (upd v111.2.2.2.1 ((16 * t13) + t15).toNatClampNeg 0), (upd v111.2.2.2.2.1 ((16 * t13) + t15).toNatClampNeg (-1)), (upd v111.2.2.2.2.2.1 ((16 * t13) + t15).toNatClampNeg 0), v111.2.2.2.2.2.2.1, v111.2.2.2.2.2.2.2.1, v111.2.2.2.2.2.2.2.2)
def f_L_law_j539 (L : Nat) (xs : Nat → Int32) (k111 : (Int32 × TX5s × TV48s × TV48s × TV48s × TV48s × TV32s × TV32s × TV10s) → Option (Int32)) (v111 : Int32 × TX5s × TV48s × TV48s × TV48s × TV48s × TV32s × TV32s × TV10s) (t13 : Int32) (t15 : Int32) (t129 : Int32 × TX5s) (w526 : Int32) (w539 : Int32) : Option (Int32) :=
if t129.1 = (w526 + w539) then (
f_L_law_j548 L xs k111 v111 t13 t15 t129 1)
else (
f_L_law_j548 L xs k111 v111 t13 t15 t129 0)
def f_L_law_j526 (L : Nat) (xs : Nat → Int32) (k111 : (Int32 × TX5s × TV48s × TV48s × TV48s × TV48s × TV32s × TV32s × TV10s) → Option (Int32)) (v111 : Int32 × TX5s × TV48s × TV48s × TV48s × TV48s × TV32s × TV32s × TV10s) (t13 : Int32) (t15 : Int32) (t129 : Int32 × TX5s) (w526 : Int32) : Option (Int32) :=
if ((16 * t13) + t15) < 0 ∨ 48 ≤ ((16 * t13) + t15).toNatClampNeg then none else
if (v111.2.2.2.2.1 ((16 * t13) + t15).toNatClampNeg) < 0 then (
f_L_law_j539 L xs k111 v111 t13 t15 t129 w526 0)
else (
f_L_law_j539 L xs k111 v111 t13 t15 t129 w526 1)
def f_L_law_j483 (L : Nat) (xs : Nat → Int32) (k111 : (Int32 × TX5s × TV48s × TV48s × TV48s × TV48s × TV32s × TV32s × TV10s) → Option (Int32)) (v111 : Int32 × TX5s × TV48s × TV48s × TV48s × TV48s × TV32s × TV32s × TV10s) (t15 : Int32) (t140 : Int32) (t142 : Int32) (t145 : Int32 × TX5s) (w459 : Int32) (w483 : Int32) : Option (Int32) :=
if ((16 * t140) + t15) < 0 ∨ 32 ≤ ((16 * t140) + t15).toNatClampNeg then none else
f_L_law_j960 L xs k111 v111 (w459, t145.2, v111.2.2.1, v111.2.2.2.1, v111.2.2.2.2.1, v111.2.2.2.2.2.1, (upd v111.2.2.2.2.2.2.1 ((16 * t140) + t15).toNatClampNeg t142), (upd v111.2.2.2.2.2.2.2.1 ((16 * t140) + t15).toNatClampNeg w483), v111.2.2.2.2.2.2.2.2)
def f_L_law_j459 (L : Nat) (xs : Nat → Int32) (k111 : (Int32 × TX5s × TV48s × TV48s × TV48s × TV48s × TV32s × TV32s × TV10s) → Option (Int32)) (v111 : Int32 × TX5s × TV48s × TV48s × TV48s × TV48s × TV32s × TV32s × TV10s) (t15 : Int32) (t140 : Int32) (t142 : Int32) (t145 : Int32 × TX5s) (w459 : Int32) : Option (Int32) :=
if ((16 * t140) + t15) < 0 ∨ 32 ≤ ((16 * t140) + t15).toNatClampNeg then none else
if t142 = 0 then (
f_L_law_j483 L xs k111 v111 t15 t140 t142 t145 w459 0)
else (
f_L_law_j483 L xs k111 v111 t15 t140 t142 t145 w459 100)
def f_L_law_j393 (L : Nat) (xs : Nat → Int32) (k111 : (Int32 × TX5s × TV48s × TV48s × TV48s × TV48s × TV32s × TV32s × TV10s) → Option (Int32)) (v111 : Int32 × TX5s × TV48s × TV48s × TV48s × TV48s × TV32s × TV32s × TV10s) (t13 : Int32) (t15 : Int32) (t152 : Int32) (t158 : Int32 × TX5s) (w393 : Int32) : Option (Int32) :=
f_L_law_j960 L xs k111 v111 (w393, t158.2, v111.2.2.1, v111.2.2.2.1, (upd v111.2.2.2.2.1 ((16 * t13) + t15).toNatClampNeg t152), (upd v111.2.2.2.2.2.1 ((16 * t13) + t15).toNatClampNeg 100), v111.2.2.2.2.2.2.1, v111.2.2.2.2.2.2.2.1, v111.2.2.2.2.2.2.2.2)
def f_L_law_l339 (L : Nat) (xs : Nat → Int32) (k111 : (Int32 × TX5s × TV48s × TV48s × TV48s × TV48s × TV32s × TV32s × TV10s) → Option (Int32)) (v111 : Int32 × TX5s × TV48s × TV48s × TV48s × TV48s × TV32s × TV32s × TV10s) (t13 : Int32) (t15 : Int32) (t152 : Int32) (k339 : (Int32 × Int32) → Option (Int32)) (v339 : Int32 × Int32) : Option (Int32) :=
if 48 ≤ v339.2 then (
if ((16 * t13) + t15) < 0 ∨ 48 ≤ ((16 * t13) + t15).toNatClampNeg then none else
(f_X5_word v111.2.1 t13 t15 ((upd v111.2.2.2.2.1 ((16 * t13) + t15).toNatClampNeg t152) ((16 * t13) + t15).toNatClampNeg)).bind fun t158 =>
if t158.1 = v339.1 then (
f_L_law_j393 L xs k111 v111 t13 t15 t152 t158 1)
else (
f_L_law_j393 L xs k111 v111 t13 t15 t152 t158 0))
else (
if v339.2 < 0 ∨ 48 ≤ (v339.2).toNatClampNeg then none else
if ((upd v111.2.2.2.2.1 ((16 * t13) + t15).toNatClampNeg t152) (v339.2).toNatClampNeg) < 0 then (
k339 ((v339.1 + 0), (v339.2 + 1)))
else (
k339 ((v339.1 + 1), (v339.2 + 1))))
def f_L_law_j300 (L : Nat) (xs : Nat → Int32) (k111 : (Int32 × TX5s × TV48s × TV48s × TV48s × TV48s × TV32s × TV32s × TV10s) → Option (Int32)) (v111 : Int32 × TX5s × TV48s × TV48s × TV48s × TV48s × TV32s × TV32s × TV10s) (w300 : Int32 × TX5s × TV48s × TV48s × TV48s × TV48s × TV32s × TV32s × TV10s) : Option (Int32) :=
f_L_law_j960 L xs k111 v111 (w300.1, w300.2.1, w300.2.2.1, w300.2.2.2.1, w300.2.2.2.2.1, w300.2.2.2.2.2.1, w300.2.2.2.2.2.2.1, w300.2.2.2.2.2.2.2.1, w300.2.2.2.2.2.2.2.2)
def f_L_law_j299 (L : Nat) (xs : Nat → Int32) (k111 : (Int32 × TX5s × TV48s × TV48s × TV48s × TV48s × TV32s × TV32s × TV10s) → Option (Int32)) (v111 : Int32 × TX5s × TV48s × TV48s × TV48s × TV48s × TV32s × TV32s × TV10s) (w299 : TX5s × TV48s × TV48s × TV48s × TV48s × TV32s × TV32s × TV10s) : Option (Int32) :=
f_L_law_j300 L xs k111 v111 (0, w299.1, w299.2.1, w299.2.2.1, w299.2.2.2.1, w299.2.2.2.2.1, w299.2.2.2.2.2.1, w299.2.2.2.2.2.2.1, w299.2.2.2.2.2.2.2)
def f_L_law_j292 (L : Nat) (xs : Nat → Int32) (k111 : (Int32 × TX5s × TV48s × TV48s × TV48s × TV48s × TV32s × TV32s × TV10s) → Option (Int32)) (v111 : Int32 × TX5s × TV48s × TV48s × TV48s × TV48s × TV32s × TV32s × TV10s) (w222 : TX5s × TV48s × TV48s × TV48s × TV48s × TV32s × TV32s × TV10s) (t171 : Int32 × TX5s) (w292 : Int32) : Option (Int32) :=
if t171.1 = w292 then (
f_L_law_j300 L xs k111 v111 (1, t171.2, w222.2.1, w222.2.2.1, w222.2.2.2.1, w222.2.2.2.2.1, w222.2.2.2.2.2.1, w222.2.2.2.2.2.2.1, w222.2.2.2.2.2.2.2))
else (
f_L_law_j299 L xs k111 v111 (t171.2, w222.2.1, w222.2.2.1, w222.2.2.2.1, w222.2.2.2.2.1, w222.2.2.2.2.2.1, w222.2.2.2.2.2.2.1, w222.2.2.2.2.2.2.2))
def f_L_law_l225 (L : Nat) (xs : Nat → Int32) (k111 : (Int32 × TX5s × TV48s × TV48s × TV48s × TV48s × TV32s × TV32s × TV10s) → Option (Int32)) (v111 : Int32 × TX5s × TV48s × TV48s × TV48s × TV48s × TV32s × TV32s × TV10s) (t13 : Int32) (t15 : Int32) (t163 : Int32) (t165 : Int32) (w222 : TX5s × TV48s × TV48s × TV48s × TV48s × TV32s × TV32s × TV10s) (k225 : (Int32 × Int32) → Option (Int32)) (v225 : Int32 × Int32) : Option (Int32) :=
if 48 ≤ v225.2 then (
(f_X5_whyNot w222.1 t13 t15 t163).bind fun t168 =>
if t168 = t165 then (
(f_X5_arrow w222.1 t13 t15 t163).bind fun t171 =>
if t165 ≤ 0 then (
f_L_law_j292 L xs k111 v111 w222 t171 v225.1)
else (
f_L_law_j292 L xs k111 v111 w222 t171 (-3)))
else (
f_L_law_j299 L xs k111 v111 (w222.1, w222.2.1, w222.2.2.1, w222.2.2.2.1, w222.2.2.2.2.1, w222.2.2.2.2.2.1, w222.2.2.2.2.2.2.1, w222.2.2.2.2.2.2.2)))
else (
if v225.2 < 0 ∨ 48 ≤ (v225.2).toNatClampNeg then none else
if (w222.2.1 (v225.2).toNatClampNeg) < 0 then (
k225 ((v225.1 + 0), (v225.2 + 1)))
else (
k225 ((v225.1 + 1), (v225.2 + 1))))
def f_L_law_j222 (L : Nat) (xs : Nat → Int32) (k111 : (Int32 × TX5s × TV48s × TV48s × TV48s × TV48s × TV32s × TV32s × TV10s) → Option (Int32)) (v111 : Int32 × TX5s × TV48s × TV48s × TV48s × TV48s × TV32s × TV32s × TV10s) (t13 : Int32) (t15 : Int32) (t163 : Int32) (t165 : Int32) (w222 : TX5s × TV48s × TV48s × TV48s × TV48s × TV32s × TV32s × TV10s) : Option (Int32) :=
lpN (f_L_law_l225 L xs k111 v111 t13 t15 t163 t165 w222) 3000 (0, 0)
def f_L_law_l111 (L : Nat) (xs : Nat → Int32) (k111 : (Int32 × TX5s × TV48s × TV48s × TV48s × TV48s × TV32s × TV32s × TV10s) → Option (Int32)) (v111 : Int32 × TX5s × TV48s × TV48s × TV48s × TV48s × TV32s × TV32s × TV10s) : Option (Int32) :=
if 70 ≤ v111.1 then (
some 1)
else (
(f_L_cell L xs v111.1).bind fun t9 =>
(f_L_low t9 20).bind fun t11 =>
(f_L_low (t9 >>> ((5 : Int32) &&& 31)) 3).bind fun t13 =>
(f_L_low (t9 >>> ((7 : Int32) &&& 31)) 16).bind fun t15 =>
if 6 ≤ t11 then (
if 9 ≤ t11 then (
if 12 ≤ t11 then (
if t11 = 12 then (
(f_L_low (t9 >>> ((11 : Int32) &&& 31)) 2).bind fun t126 =>
if t126 = 0 then (
(f_X5_erase v111.2.1 t13 t15).bind fun t129 =>
if ((16 * t13) + t15) < 0 ∨ 48 ≤ ((16 * t13) + t15).toNatClampNeg then none else
if (v111.2.2.1 ((16 * t13) + t15).toNatClampNeg) < 0 then (
f_L_law_j526 L xs k111 v111 t13 t15 t129 0)
else (
f_L_law_j526 L xs k111 v111 t13 t15 t129 1))
else (
f_L_law_j575 L xs k111 v111 t9 t11 t13 t15 ()))
else (
f_L_law_j575 L xs k111 v111 t9 t11 t13 t15 ()))
else (
(f_L_low (t9 >>> ((13 : Int32) &&& 31)) 2).bind fun t140 =>
(f_L_low (t9 >>> ((11 : Int32) &&& 31)) 4).bind fun t142 =>
(f_X5_dash v111.2.1 (((16 * t140) + t15) / 16) t15 t142).bind fun t145 =>
if ((16 * t140) + t15) < 0 ∨ 32 ≤ ((16 * t140) + t15).toNatClampNeg then none else
if t145.1 = (v111.2.2.2.2.2.2.1 ((16 * t140) + t15).toNatClampNeg) then (
f_L_law_j459 L xs k111 v111 t15 t140 t142 t145 1)
else (
f_L_law_j459 L xs k111 v111 t15 t140 t142 t145 0)))
else (
(f_L_low (t9 >>> ((11 : Int32) &&& 31)) 4).bind fun t152 =>
if ((16 * t13) + t15) < 0 ∨ 48 ≤ ((16 * t13) + t15).toNatClampNeg then none else
if ((16 * t13) + t15) < 0 ∨ 48 ≤ ((16 * t13) + t15).toNatClampNeg then none else
lpN (f_L_law_l339 L xs k111 v111 t13 t15 t152) 3000 (0, 0)))
else (
(f_L_low (t9 >>> ((11 : Int32) &&& 31)) 3).bind fun t163 =>
(f_L_reason v111.2.2.1 v111.2.2.2.2.2.2.1 t13 t15 t163).bind fun t165 =>
if t165 = 0 then (
if ((16 * t13) + t15) < 0 ∨ 48 ≤ ((16 * t13) + t15).toNatClampNeg then none else
if ((16 * t13) + t15) < 0 ∨ 48 ≤ ((16 * t13) + t15).toNatClampNeg then none else
f_L_law_j222 L xs k111 v111 t13 t15 t163 t165 (v111.2.1, (upd v111.2.2.1 ((16 * t13) + t15).toNatClampNeg t163), (upd v111.2.2.2.1 ((16 * t13) + t15).toNatClampNeg 100), v111.2.2.2.2.1, v111.2.2.2.2.2.1, v111.2.2.2.2.2.2.1, v111.2.2.2.2.2.2.2.1, v111.2.2.2.2.2.2.2.2))
else (
f_L_law_j222 L xs k111 v111 t13 t15 t163 t165 (v111.2.1, v111.2.2.1, v111.2.2.2.1, v111.2.2.2.2.1, v111.2.2.2.2.2.1, v111.2.2.2.2.2.2.1, v111.2.2.2.2.2.2.2.1, v111.2.2.2.2.2.2.2.2))))
def f_L_law_l51 (L : Nat) (xs : Nat → Int32) (k51 : (Int32 × TX5s × TV48s × TV48s × TV48s × TV48s × TV32s × TV32s × TV10s) → Option (Int32)) (v51 : Int32 × TX5s × TV48s × TV48s × TV48s × TV48s × TV32s × TV32s × TV10s) : Option (Int32) :=
if 48 ≤ v51.1 then (
if (0 : Int32) < 0 ∨ 10 ≤ (0 : Int32).toNatClampNeg then none else
if (1 : Int32) < 0 ∨ 10 ≤ (1 : Int32).toNatClampNeg then none else
if (2 : Int32) < 0 ∨ 10 ≤ (2 : Int32).toNatClampNeg then none else
if (3 : Int32) < 0 ∨ 10 ≤ (3 : Int32).toNatClampNeg then none else
if (4 : Int32) < 0 ∨ 10 ≤ (4 : Int32).toNatClampNeg then none else
if (5 : Int32) < 0 ∨ 10 ≤ (5 : Int32).toNatClampNeg then none else
lpN (f_L_law_l111 L xs) 100 (0, v51.2.1, v51.2.2.1, v51.2.2.2.1, v51.2.2.2.2.1, v51.2.2.2.2.2.1, v51.2.2.2.2.2.2.1, v51.2.2.2.2.2.2.2.1, (upd (upd (upd (upd (upd (upd v51.2.2.2.2.2.2.2.2 (0 : Int32).toNatClampNeg 30) (1 : Int32).toNatClampNeg 12) (2 : Int32).toNatClampNeg 5) (3 : Int32).toNatClampNeg 5) (4 : Int32).toNatClampNeg 5) (5 : Int32).toNatClampNeg 20)))
else (
if v51.1 < 0 ∨ 48 ≤ (v51.1).toNatClampNeg then none else
if v51.1 < 0 ∨ 48 ≤ (v51.1).toNatClampNeg then none else
k51 ((v51.1 + 1), v51.2.1, (upd v51.2.2.1 (v51.1).toNatClampNeg (-1)), v51.2.2.2.1, (upd v51.2.2.2.2.1 (v51.1).toNatClampNeg (-1)), v51.2.2.2.2.2.1, v51.2.2.2.2.2.2.1, v51.2.2.2.2.2.2.2.1, v51.2.2.2.2.2.2.2.2))
def f_L_law (L : Nat) (xs : Nat → Int32) (x : TX5s) : Option Int32 :=
lpN (f_L_law_l51 L xs) 3000 (0, x, (fun _ => 0), (fun _ => 0), (fun _ => 0), (fun _ => 0), (fun _ => 0), (fun _ => 0), (fun _ => 0))
set_option maxHeartbeats 40000000 in
set_option maxRecDepth 100000 in
theorem law_walk {p : Program} {l : Launch} {e : Env} {R : Room} {s : State} {m : MethodId} {args : Array Value} {below : List Frame} {meth : Method} {c : Code} {Q : State → Prop} {Z : Nat → Prop} (g : GG) (b L : Nat) (xs : Nat → Int32) (C : CxG p s m args c code 24 RL wsL_law g Z) (hX : va_X b L xs s s.heap) (hbl : b < s.heap.size) (hbZ : ¬ Z b) (hR : R.frames = 10 ∧ R.locals = 408) (hz : R.cells = 600000 ∧ R.slots = 7302249) (A : Nat → Nat) (x : TX5s) (E : ∀ (H : Heap) (locs : List Loc) (ls : Array Slot) (pc : Nat) (bs : List va_W), WdG g Z s.heap H locs bs → decode code pc = .ok (.ireturn, 1) → W p l e R s m args below meth c H locs 600000 7302249 Q (F0 m pc ls [.int 1])) (h : f_L_law L xs x = some 1) (H : Heap) (locs : List Loc) (hW : WdG g Z s.heap H locs [wX5 g A 0 x]) (ls : Array Slot) (hl : lv_has ls 24 [(0, .ref b), (1, .ref (A 0))]) : W p l e R s m args below meth c H locs 91 2050 Q (F0 m 8 ls []) := by
  have hx := C.1.1
  have hb := C.1.2.1
  have hown := C.1.2.2.2.1
  unfold f_L_law at h
  refine lv_bipush (v := 48) hx hb dL_law_8 (by decide) ?_
  refine r_newaI C hW (n := 48) (by decide) (by decide) (Nat.le_of_ble_eq_true rfl) (List.mem_of_getElem? (i := 3) rfl) (by rw [hz.1]; omega) (by rw [hz.2]; omega) dL_law_10 (fun q H hW => ?_)
  obtain ⟨A2, rfl⟩ : ∃ A2 : Nat → Nat, A2 0 = q := ⟨fun _ => q, rfl⟩
  replace hW : WdG g Z s.heap H _ [wX5 g A 0 x, [(A2 0, .inl (gI g, 48, .inl (fun _ => 0)))]] := hW
  refine lv_astore_n (lv' := [(2, .ref (A2 0)), (0, .ref b), (1, .ref (A 0))]) hx hb dL_law_12 rfl hl (by decide) rfl (fun ls hl => ?_)
  refine lv_bipush (v := 48) hx hb dL_law_13 (by decide) ?_
  refine r_newaI C hW (n := 48) (by decide) (by decide) (Nat.le_of_ble_eq_true rfl) (List.mem_of_getElem? (i := 3) rfl) (by rw [hz.1]; omega) (by rw [hz.2]; omega) dL_law_15 (fun q H hW => ?_)
  obtain ⟨A3, rfl⟩ : ∃ A3 : Nat → Nat, A3 0 = q := ⟨fun _ => q, rfl⟩
  replace hW : WdG g Z s.heap H _ [wX5 g A 0 x, [(A2 0, .inl (gI g, 48, .inl (fun _ => 0)))], [(A3 0, .inl (gI g, 48, .inl (fun _ => 0)))]] := hW
  refine lv_astore_n (lv' := [(3, .ref (A3 0)), (2, .ref (A2 0)), (0, .ref b), (1, .ref (A 0))]) hx hb dL_law_17 rfl hl (by decide) rfl (fun ls hl => ?_)
  refine lv_bipush (v := 48) hx hb dL_law_18 (by decide) ?_
  refine r_newaI C hW (n := 48) (by decide) (by decide) (Nat.le_of_ble_eq_true rfl) (List.mem_of_getElem? (i := 3) rfl) (by rw [hz.1]; omega) (by rw [hz.2]; omega) dL_law_20 (fun q H hW => ?_)
  obtain ⟨A4, rfl⟩ : ∃ A4 : Nat → Nat, A4 0 = q := ⟨fun _ => q, rfl⟩
  replace hW : WdG g Z s.heap H _ [wX5 g A 0 x, [(A2 0, .inl (gI g, 48, .inl (fun _ => 0)))], [(A3 0, .inl (gI g, 48, .inl (fun _ => 0)))], [(A4 0, .inl (gI g, 48, .inl (fun _ => 0)))]] := hW
  refine lv_astore (lv' := [(4, .ref (A4 0)), (3, .ref (A3 0)), (2, .ref (A2 0)), (0, .ref b), (1, .ref (A 0))]) hx hb dL_law_22 hl (by decide) rfl (fun ls hl => ?_)
  refine lv_bipush (v := 48) hx hb dL_law_24 (by decide) ?_
  refine r_newaI C hW (n := 48) (by decide) (by decide) (Nat.le_of_ble_eq_true rfl) (List.mem_of_getElem? (i := 3) rfl) (by rw [hz.1]; omega) (by rw [hz.2]; omega) dL_law_26 (fun q H hW => ?_)
  obtain ⟨A5, rfl⟩ : ∃ A5 : Nat → Nat, A5 0 = q := ⟨fun _ => q, rfl⟩
  replace hW : WdG g Z s.heap H _ [wX5 g A 0 x, [(A2 0, .inl (gI g, 48, .inl (fun _ => 0)))], [(A3 0, .inl (gI g, 48, .inl (fun _ => 0)))], [(A4 0, .inl (gI g, 48, .inl (fun _ => 0)))], [(A5 0, .inl (gI g, 48, .inl (fun _ => 0)))]] := hW
  refine lv_astore (lv' := [(5, .ref (A5 0)), (4, .ref (A4 0)), (3, .ref (A3 0)), (2, .ref (A2 0)), (0, .ref b), (1, .ref (A 0))]) hx hb dL_law_28 hl (by decide) rfl (fun ls hl => ?_)
  refine lv_bipush (v := 32) hx hb dL_law_30 (by decide) ?_
  refine r_newaI C hW (n := 32) (by decide) (by decide) (Nat.le_of_ble_eq_true rfl) (List.mem_of_getElem? (i := 3) rfl) (by rw [hz.1]; omega) (by rw [hz.2]; omega) dL_law_32 (fun q H hW => ?_)
  obtain ⟨A6, rfl⟩ : ∃ A6 : Nat → Nat, A6 0 = q := ⟨fun _ => q, rfl⟩
  replace hW : WdG g Z s.heap H _ [wX5 g A 0 x, [(A2 0, .inl (gI g, 48, .inl (fun _ => 0)))], [(A3 0, .inl (gI g, 48, .inl (fun _ => 0)))], [(A4 0, .inl (gI g, 48, .inl (fun _ => 0)))], [(A5 0, .inl (gI g, 48, .inl (fun _ => 0)))], [(A6 0, .inl (gI g, 32, .inl (fun _ => 0)))]] := hW
  refine lv_astore (lv' := [(6, .ref (A6 0)), (5, .ref (A5 0)), (4, .ref (A4 0)), (3, .ref (A3 0)), (2, .ref (A2 0)), (0, .ref b), (1, .ref (A 0))]) hx hb dL_law_34 hl (by decide) rfl (fun ls hl => ?_)
  refine lv_bipush (v := 32) hx hb dL_law_36 (by decide) ?_
  refine r_newaI C hW (n := 32) (by decide) (by decide) (Nat.le_of_ble_eq_true rfl) (List.mem_of_getElem? (i := 3) rfl) (by rw [hz.1]; omega) (by rw [hz.2]; omega) dL_law_38 (fun q H hW => ?_)
  obtain ⟨A7, rfl⟩ : ∃ A7 : Nat → Nat, A7 0 = q := ⟨fun _ => q, rfl⟩
  replace hW : WdG g Z s.heap H _ [wX5 g A 0 x, [(A2 0, .inl (gI g, 48, .inl (fun _ => 0)))], [(A3 0, .inl (gI g, 48, .inl (fun _ => 0)))], [(A4 0, .inl (gI g, 48, .inl (fun _ => 0)))], [(A5 0, .inl (gI g, 48, .inl (fun _ => 0)))], [(A6 0, .inl (gI g, 32, .inl (fun _ => 0)))], [(A7 0, .inl (gI g, 32, .inl (fun _ => 0)))]] := hW
  refine lv_astore (lv' := [(7, .ref (A7 0)), (6, .ref (A6 0)), (5, .ref (A5 0)), (4, .ref (A4 0)), (3, .ref (A3 0)), (2, .ref (A2 0)), (0, .ref b), (1, .ref (A 0))]) hx hb dL_law_40 hl (by decide) rfl (fun ls hl => ?_)
  refine lv_bipush (v := 10) hx hb dL_law_42 (by decide) ?_
  refine r_newaI C hW (n := 10) (by decide) (by decide) (Nat.le_of_ble_eq_true rfl) (List.mem_of_getElem? (i := 3) rfl) (by rw [hz.1]; omega) (by rw [hz.2]; omega) dL_law_44 (fun q H hW => ?_)
  obtain ⟨A8, rfl⟩ : ∃ A8 : Nat → Nat, A8 0 = q := ⟨fun _ => q, rfl⟩
  replace hW : WdG g Z s.heap H _ [wX5 g A 0 x, [(A2 0, .inl (gI g, 48, .inl (fun _ => 0)))], [(A3 0, .inl (gI g, 48, .inl (fun _ => 0)))], [(A4 0, .inl (gI g, 48, .inl (fun _ => 0)))], [(A5 0, .inl (gI g, 48, .inl (fun _ => 0)))], [(A6 0, .inl (gI g, 32, .inl (fun _ => 0)))], [(A7 0, .inl (gI g, 32, .inl (fun _ => 0)))], [(A8 0, .inl (gI g, 10, .inl (fun _ => 0)))]] := hW
  refine lv_astore (lv' := [(8, .ref (A8 0)), (7, .ref (A7 0)), (6, .ref (A6 0)), (5, .ref (A5 0)), (4, .ref (A4 0)), (3, .ref (A3 0)), (2, .ref (A2 0)), (0, .ref b), (1, .ref (A 0))]) hx hb dL_law_46 hl (by decide) rfl (fun ls hl => ?_)
  refine lv_iconst (v := 0) hx hb dL_law_48 (by decide) ?_
  refine lv_istore (lv' := [(9, .int 0), (8, .ref (A8 0)), (7, .ref (A7 0)), (6, .ref (A6 0)), (5, .ref (A5 0)), (4, .ref (A4 0)), (3, .ref (A3 0)), (2, .ref (A2 0)), (0, .ref b), (1, .ref (A 0))]) hx hb dL_law_49 hl (by decide) rfl (fun ls hl => ?_)
  have L51 : ∀ n51 : Nat, ∀ (v51 : Int32 × TX5s × TV48s × TV48s × TV48s × TV48s × TV32s × TV32s × TV10s), lpN (f_L_law_l51 L xs) n51 v51 = some (1 : Int32) → ∀ (H : Heap) (locs : List Loc), WdG g Z s.heap H locs [wX5 g A 0 v51.2.1, [(A2 0, .inl (gI g, 48, .inl v51.2.2.1))], [(A3 0, .inl (gI g, 48, .inl v51.2.2.2.1))], [(A4 0, .inl (gI g, 48, .inl v51.2.2.2.2.1))], [(A5 0, .inl (gI g, 48, .inl v51.2.2.2.2.2.1))], [(A6 0, .inl (gI g, 32, .inl v51.2.2.2.2.2.2.1))], [(A7 0, .inl (gI g, 32, .inl v51.2.2.2.2.2.2.2.1))], [(A8 0, .inl (gI g, 10, .inl v51.2.2.2.2.2.2.2.2))]] → ∀ ls : Array Slot, lv_has ls 24 [(0, .ref b), (1, .ref (A 0)), (2, .ref (A2 0)), (3, .ref (A3 0)), (4, .ref (A4 0)), (5, .ref (A5 0)), (6, .ref (A6 0)), (7, .ref (A7 0)), (8, .ref (A8 0)), (9, .int v51.1)] → W p l e R s m args below meth c H locs (((((((91 + 1) + 1) + 1) + 1) + 1) + 1) + 1) (((((((2050 + 48) + 48) + 48) + 48) + 32) + 32) + 10) Q (F0 m 51 ls []) := by
    intro n51
    induction n51 with
    | zero => intro v51 h; exact absurd (show none = some (1 : Int32) from h) (fun h => by cases h)
    | succ n51 ih51 =>
      intro v51 h H locs hW ls hl
      replace h : f_L_law_l51 L xs (lpN (f_L_law_l51 L xs) n51) v51 = some (1 : Int32) := h
      unfold f_L_law_l51 at h
      refine lv_iload hx hb dL_law_51 (lv_at hl 9 rfl) ?_
      refine lv_bipush (v := 48) hx hb dL_law_53 (by decide) ?_
      refine lv_icmp_ge (tgt := 75) hx hb dL_law_55 (by decide) (fun e1 => ?_) (fun e1 => ?_)
      · replace h := q_t e1 h
        refine lv_aload hx hb dL_law_75 (lv_at hl 8 rfl) ?_
        refine lv_iconst (v := 0) hx hb dL_law_77 (by decide) ?_
        refine lv_bipush (v := 30) hx hb dL_law_78 (by decide) ?_
        obtain ⟨g2, h⟩ := q_g h
        refine r_iast C hW (bs' := [wX5 g A 0 v51.2.1, [(A2 0, .inl (gI g, 48, .inl v51.2.2.1))], [(A3 0, .inl (gI g, 48, .inl v51.2.2.2.1))], [(A4 0, .inl (gI g, 48, .inl v51.2.2.2.2.1))], [(A5 0, .inl (gI g, 48, .inl v51.2.2.2.2.2.1))], [(A6 0, .inl (gI g, 32, .inl v51.2.2.2.2.2.2.1))], [(A7 0, .inl (gI g, 32, .inl v51.2.2.2.2.2.2.2.1))], [(A8 0, .inl (gI g, 10, .inl (upd v51.2.2.2.2.2.2.2.2 (0 : Int32).toNatClampNeg 30)))]]) 7 0 rfl rfl g2 dL_law_80 rfl (fun H locs hW => ?_)
        refine lv_aload hx hb dL_law_81 (lv_at hl 8 rfl) ?_
        refine lv_iconst (v := 1) hx hb dL_law_83 (by decide) ?_
        refine lv_bipush (v := 12) hx hb dL_law_84 (by decide) ?_
        obtain ⟨g3, h⟩ := q_g h
        refine r_iast C hW (bs' := [wX5 g A 0 v51.2.1, [(A2 0, .inl (gI g, 48, .inl v51.2.2.1))], [(A3 0, .inl (gI g, 48, .inl v51.2.2.2.1))], [(A4 0, .inl (gI g, 48, .inl v51.2.2.2.2.1))], [(A5 0, .inl (gI g, 48, .inl v51.2.2.2.2.2.1))], [(A6 0, .inl (gI g, 32, .inl v51.2.2.2.2.2.2.1))], [(A7 0, .inl (gI g, 32, .inl v51.2.2.2.2.2.2.2.1))], [(A8 0, .inl (gI g, 10, .inl (upd (upd v51.2.2.2.2.2.2.2.2 (0 : Int32).toNatClampNeg 30) (1 : Int32).toNatClampNeg 12)))]]) 7 0 rfl rfl g3 dL_law_86 rfl (fun H locs hW => ?_)
        refine lv_aload hx hb dL_law_87 (lv_at hl 8 rfl) ?_
        refine lv_iconst (v := 2) hx hb dL_law_89 (by decide) ?_
        refine lv_iconst (v := 5) hx hb dL_law_90 (by decide) ?_
        obtain ⟨g4, h⟩ := q_g h
        refine r_iast C hW (bs' := [wX5 g A 0 v51.2.1, [(A2 0, .inl (gI g, 48, .inl v51.2.2.1))], [(A3 0, .inl (gI g, 48, .inl v51.2.2.2.1))], [(A4 0, .inl (gI g, 48, .inl v51.2.2.2.2.1))], [(A5 0, .inl (gI g, 48, .inl v51.2.2.2.2.2.1))], [(A6 0, .inl (gI g, 32, .inl v51.2.2.2.2.2.2.1))], [(A7 0, .inl (gI g, 32, .inl v51.2.2.2.2.2.2.2.1))], [(A8 0, .inl (gI g, 10, .inl (upd (upd (upd v51.2.2.2.2.2.2.2.2 (0 : Int32).toNatClampNeg 30) (1 : Int32).toNatClampNeg 12) (2 : Int32).toNatClampNeg 5)))]]) 7 0 rfl rfl g4 dL_law_91 rfl (fun H locs hW => ?_)
        refine lv_aload hx hb dL_law_92 (lv_at hl 8 rfl) ?_
        refine lv_iconst (v := 3) hx hb dL_law_94 (by decide) ?_
        refine lv_iconst (v := 5) hx hb dL_law_95 (by decide) ?_
        obtain ⟨g5, h⟩ := q_g h
        refine r_iast C hW (bs' := [wX5 g A 0 v51.2.1, [(A2 0, .inl (gI g, 48, .inl v51.2.2.1))], [(A3 0, .inl (gI g, 48, .inl v51.2.2.2.1))], [(A4 0, .inl (gI g, 48, .inl v51.2.2.2.2.1))], [(A5 0, .inl (gI g, 48, .inl v51.2.2.2.2.2.1))], [(A6 0, .inl (gI g, 32, .inl v51.2.2.2.2.2.2.1))], [(A7 0, .inl (gI g, 32, .inl v51.2.2.2.2.2.2.2.1))], [(A8 0, .inl (gI g, 10, .inl (upd (upd (upd (upd v51.2.2.2.2.2.2.2.2 (0 : Int32).toNatClampNeg 30) (1 : Int32).toNatClampNeg 12) (2 : Int32).toNatClampNeg 5) (3 : Int32).toNatClampNeg 5)))]]) 7 0 rfl rfl g5 dL_law_96 rfl (fun H locs hW => ?_)
        refine lv_aload hx hb dL_law_97 (lv_at hl 8 rfl) ?_
        refine lv_iconst (v := 4) hx hb dL_law_99 (by decide) ?_
        refine lv_iconst (v := 5) hx hb dL_law_100 (by decide) ?_
        obtain ⟨g6, h⟩ := q_g h
        refine r_iast C hW (bs' := [wX5 g A 0 v51.2.1, [(A2 0, .inl (gI g, 48, .inl v51.2.2.1))], [(A3 0, .inl (gI g, 48, .inl v51.2.2.2.1))], [(A4 0, .inl (gI g, 48, .inl v51.2.2.2.2.1))], [(A5 0, .inl (gI g, 48, .inl v51.2.2.2.2.2.1))], [(A6 0, .inl (gI g, 32, .inl v51.2.2.2.2.2.2.1))], [(A7 0, .inl (gI g, 32, .inl v51.2.2.2.2.2.2.2.1))], [(A8 0, .inl (gI g, 10, .inl (upd (upd (upd (upd (upd v51.2.2.2.2.2.2.2.2 (0 : Int32).toNatClampNeg 30) (1 : Int32).toNatClampNeg 12) (2 : Int32).toNatClampNeg 5) (3 : Int32).toNatClampNeg 5) (4 : Int32).toNatClampNeg 5)))]]) 7 0 rfl rfl g6 dL_law_101 rfl (fun H locs hW => ?_)
        refine lv_aload hx hb dL_law_102 (lv_at hl 8 rfl) ?_
        refine lv_iconst (v := 5) hx hb dL_law_104 (by decide) ?_
        refine lv_bipush (v := 20) hx hb dL_law_105 (by decide) ?_
        obtain ⟨g7, h⟩ := q_g h
        refine r_iast C hW (bs' := [wX5 g A 0 v51.2.1, [(A2 0, .inl (gI g, 48, .inl v51.2.2.1))], [(A3 0, .inl (gI g, 48, .inl v51.2.2.2.1))], [(A4 0, .inl (gI g, 48, .inl v51.2.2.2.2.1))], [(A5 0, .inl (gI g, 48, .inl v51.2.2.2.2.2.1))], [(A6 0, .inl (gI g, 32, .inl v51.2.2.2.2.2.2.1))], [(A7 0, .inl (gI g, 32, .inl v51.2.2.2.2.2.2.2.1))], [(A8 0, .inl (gI g, 10, .inl (upd (upd (upd (upd (upd (upd v51.2.2.2.2.2.2.2.2 (0 : Int32).toNatClampNeg 30) (1 : Int32).toNatClampNeg 12) (2 : Int32).toNatClampNeg 5) (3 : Int32).toNatClampNeg 5) (4 : Int32).toNatClampNeg 5) (5 : Int32).toNatClampNeg 20)))]]) 7 0 rfl rfl g7 dL_law_107 rfl (fun H locs hW => ?_)
        refine lv_iconst (v := 0) hx hb dL_law_108 (by decide) ?_
        refine lv_istore (lv' := [(9, .int 0), (0, .ref b), (1, .ref (A 0)), (2, .ref (A2 0)), (3, .ref (A3 0)), (4, .ref (A4 0)), (5, .ref (A5 0)), (6, .ref (A6 0)), (7, .ref (A7 0)), (8, .ref (A8 0))]) hx hb dL_law_109 hl (by decide) rfl (fun ls hl => ?_)
        have L111 : ∀ n111 : Nat, ∀ kc ks : Nat, kc + n111 * 7 ≤ 600000 → ks + n111 * 336 ≤ 7302249 → ∀ (v111 : Int32 × TX5s × TV48s × TV48s × TV48s × TV48s × TV32s × TV32s × TV10s), lpN (f_L_law_l111 L xs) n111 v111 = some (1 : Int32) → ∀ (H : Heap) (locs : List Loc), WdG g Z s.heap H locs [wX5 g A 0 v111.2.1, [(A2 0, .inl (gI g, 48, .inl v111.2.2.1))], [(A3 0, .inl (gI g, 48, .inl v111.2.2.2.1))], [(A4 0, .inl (gI g, 48, .inl v111.2.2.2.2.1))], [(A5 0, .inl (gI g, 48, .inl v111.2.2.2.2.2.1))], [(A6 0, .inl (gI g, 32, .inl v111.2.2.2.2.2.2.1))], [(A7 0, .inl (gI g, 32, .inl v111.2.2.2.2.2.2.2.1))], [(A8 0, .inl (gI g, 10, .inl v111.2.2.2.2.2.2.2.2))]] → ∀ ls : Array Slot, lv_has ls 24 [(0, .ref b), (1, .ref (A 0)), (2, .ref (A2 0)), (3, .ref (A3 0)), (4, .ref (A4 0)), (5, .ref (A5 0)), (6, .ref (A6 0)), (7, .ref (A7 0)), (8, .ref (A8 0)), (9, .int v111.1)] → W p l e R s m args below meth c H locs kc ks Q (F0 m 111 ls []) := by
          intro n111
          induction n111 with
          | zero => intro kc ks hk1 hk2 v111 h; exact absurd (show none = some (1 : Int32) from h) (fun h => by cases h)
          | succ n111 ih111 =>
            intro kc ks hk1 hk2 v111 h H locs hW ls hl
            replace h : f_L_law_l111 L xs (lpN (f_L_law_l111 L xs) n111) v111 = some (1 : Int32) := h
            unfold f_L_law_l111 at h
            refine lv_iload hx hb dL_law_111 (lv_at hl 9 rfl) ?_
            refine lv_bipush (v := 70) hx hb dL_law_113 (by decide) ?_
            refine lv_icmp_ge (tgt := 1256) hx hb dL_law_115 (by decide) (fun e8 => ?_) (fun e8 => ?_)
            · replace h := q_t e8 h
              refine lv_iconst (v := 1) hx hb dL_law_1256 (by decide) ?_
              refine W.widen (k := 600000) (n := 7302249) (by omega) (by omega) ?_
              exact E _ _ _ _ _ hW dL_law_1257
            · replace h := q_f e8 h
              refine lv_aload_n hx hb dL_law_118 rfl (lv_at hl 0 rfl) ?_
              refine lv_iload hx hb dL_law_119 (lv_at hl 9 rfl) ?_
              obtain ⟨t9, h10, h⟩ := q_b h
              refine r_cX C hW hX hbl hbZ (nA := 2) (As := [.ref b, .int v111.1]) (rest := []) (c_L_cell l g b L xs v111.1 _ h10) gL_law_L_cell rfl wo_L_cell (rmk hR rfl rfl) rfl rfl hl.1 (Nat.le_of_ble_eq_true rfl) ⟨by rw [hz.1]; omega, by rw [hz.2]; omega⟩ dL_law_121 (fun H locs hW => ?_)
              refine lv_istore (lv' := [(10, .int t9), (0, .ref b), (1, .ref (A 0)), (2, .ref (A2 0)), (3, .ref (A3 0)), (4, .ref (A4 0)), (5, .ref (A5 0)), (6, .ref (A6 0)), (7, .ref (A7 0)), (8, .ref (A8 0)), (9, .int v111.1)]) hx hb dL_law_124 hl (by decide) rfl (fun ls hl => ?_)
              refine lv_iload hx hb dL_law_126 (lv_at hl 0 rfl) ?_
              refine lv_bipush (v := 20) hx hb dL_law_128 (by decide) ?_
              obtain ⟨t11, h12, h⟩ := q_b h
              refine r_cSi C hW (nA := 2) (As := [.int t9, .int 20]) (rest := []) (c_L_low l g t9 20 _ h12) gL_law_L_low rfl wo_L_low (rmk hR rfl rfl) rfl rfl hl.1 (Nat.le_of_ble_eq_true rfl) ⟨by rw [hz.1]; omega, by rw [hz.2]; omega⟩ dL_law_130 (n := 8) (is := []) (rs := [0, 1, 2, 3, 4, 5, 6, 7]) (bs' := [wX5 g A 0 v111.2.1, [(A2 0, .inl (gI g, 48, .inl v111.2.2.1))], [(A3 0, .inl (gI g, 48, .inl v111.2.2.2.1))], [(A4 0, .inl (gI g, 48, .inl v111.2.2.2.2.1))], [(A5 0, .inl (gI g, 48, .inl v111.2.2.2.2.2.1))], [(A6 0, .inl (gI g, 32, .inl v111.2.2.2.2.2.2.1))], [(A7 0, .inl (gI g, 32, .inl v111.2.2.2.2.2.2.2.1))], [(A8 0, .inl (gI g, 10, .inl v111.2.2.2.2.2.2.2.2))]]) rfl rfl pm_5c3e962e rfl rfl rfl (fun H locs hW => ?_)
              refine lv_istore (lv' := [(11, .int t11), (10, .int t9), (0, .ref b), (1, .ref (A 0)), (2, .ref (A2 0)), (3, .ref (A3 0)), (4, .ref (A4 0)), (5, .ref (A5 0)), (6, .ref (A6 0)), (7, .ref (A7 0)), (8, .ref (A8 0)), (9, .int v111.1)]) hx hb dL_law_133 hl (by decide) rfl (fun ls hl => ?_)
              refine lv_iload hx hb dL_law_135 (lv_at hl 1 rfl) ?_
              refine lv_iconst (v := 5) hx hb dL_law_137 (by decide) ?_
              refine lv_ishr hx hb dL_law_138 ?_
              refine lv_iconst (v := 3) hx hb dL_law_139 (by decide) ?_
              obtain ⟨t13, h14, h⟩ := q_b h
              refine r_cSi C hW (nA := 2) (As := [.int (t9 >>> ((5 : Int32) &&& 31)), .int 3]) (rest := []) (c_L_low l g (t9 >>> ((5 : Int32) &&& 31)) 3 _ h14) gL_law_L_low rfl wo_L_low (rmk hR rfl rfl) rfl rfl hl.1 (Nat.le_of_ble_eq_true rfl) ⟨by rw [hz.1]; omega, by rw [hz.2]; omega⟩ dL_law_140 (n := 8) (is := []) (rs := [0, 1, 2, 3, 4, 5, 6, 7]) (bs' := [wX5 g A 0 v111.2.1, [(A2 0, .inl (gI g, 48, .inl v111.2.2.1))], [(A3 0, .inl (gI g, 48, .inl v111.2.2.2.1))], [(A4 0, .inl (gI g, 48, .inl v111.2.2.2.2.1))], [(A5 0, .inl (gI g, 48, .inl v111.2.2.2.2.2.1))], [(A6 0, .inl (gI g, 32, .inl v111.2.2.2.2.2.2.1))], [(A7 0, .inl (gI g, 32, .inl v111.2.2.2.2.2.2.2.1))], [(A8 0, .inl (gI g, 10, .inl v111.2.2.2.2.2.2.2.2))]]) rfl rfl pm_5c3e962e rfl rfl rfl (fun H locs hW => ?_)
              refine lv_istore (lv' := [(12, .int t13), (11, .int t11), (10, .int t9), (0, .ref b), (1, .ref (A 0)), (2, .ref (A2 0)), (3, .ref (A3 0)), (4, .ref (A4 0)), (5, .ref (A5 0)), (6, .ref (A6 0)), (7, .ref (A7 0)), (8, .ref (A8 0)), (9, .int v111.1)]) hx hb dL_law_143 hl (by decide) rfl (fun ls hl => ?_)
              refine lv_iload hx hb dL_law_145 (lv_at hl 2 rfl) ?_
              refine lv_bipush (v := 7) hx hb dL_law_147 (by decide) ?_
              refine lv_ishr hx hb dL_law_149 ?_
              refine lv_bipush (v := 16) hx hb dL_law_150 (by decide) ?_
              obtain ⟨t15, h16, h⟩ := q_b h
              refine r_cSi C hW (nA := 2) (As := [.int (t9 >>> ((7 : Int32) &&& 31)), .int 16]) (rest := []) (c_L_low l g (t9 >>> ((7 : Int32) &&& 31)) 16 _ h16) gL_law_L_low rfl wo_L_low (rmk hR rfl rfl) rfl rfl hl.1 (Nat.le_of_ble_eq_true rfl) ⟨by rw [hz.1]; omega, by rw [hz.2]; omega⟩ dL_law_152 (n := 8) (is := []) (rs := [0, 1, 2, 3, 4, 5, 6, 7]) (bs' := [wX5 g A 0 v111.2.1, [(A2 0, .inl (gI g, 48, .inl v111.2.2.1))], [(A3 0, .inl (gI g, 48, .inl v111.2.2.2.1))], [(A4 0, .inl (gI g, 48, .inl v111.2.2.2.2.1))], [(A5 0, .inl (gI g, 48, .inl v111.2.2.2.2.2.1))], [(A6 0, .inl (gI g, 32, .inl v111.2.2.2.2.2.2.1))], [(A7 0, .inl (gI g, 32, .inl v111.2.2.2.2.2.2.2.1))], [(A8 0, .inl (gI g, 10, .inl v111.2.2.2.2.2.2.2.2))]]) rfl rfl pm_5c3e962e rfl rfl rfl (fun H locs hW => ?_)
              refine lv_istore (lv' := [(13, .int t15), (12, .int t13), (11, .int t11), (10, .int t9), (0, .ref b), (1, .ref (A 0)), (2, .ref (A2 0)), (3, .ref (A3 0)), (4, .ref (A4 0)), (5, .ref (A5 0)), (6, .ref (A6 0)), (7, .ref (A7 0)), (8, .ref (A8 0)), (9, .int v111.1)]) hx hb dL_law_155 hl (by decide) rfl (fun ls hl => ?_)
              refine lv_bipush (v := 16) hx hb dL_law_157 (by decide) ?_
              refine lv_iload hx hb dL_law_159 (lv_at hl 1 rfl) ?_
              refine lv_imul hx hb dL_law_161 ?_
              refine lv_iload hx hb dL_law_162 (lv_at hl 0 rfl) ?_
              refine lv_iadd hx hb dL_law_164 ?_
              refine lv_istore (lv' := [(14, .int ((16 * t13) + t15)), (13, .int t15), (12, .int t13), (11, .int t11), (10, .int t9), (0, .ref b), (1, .ref (A 0)), (2, .ref (A2 0)), (3, .ref (A3 0)), (4, .ref (A4 0)), (5, .ref (A5 0)), (6, .ref (A6 0)), (7, .ref (A7 0)), (8, .ref (A8 0)), (9, .int v111.1)]) hx hb dL_law_165 hl (by decide) rfl (fun ls hl => ?_)
              refine lv_iconst (v := 1) hx hb dL_law_167 (by decide) ?_
              refine lv_istore (lv' := [(15, .int 1), (14, .int ((16 * t13) + t15)), (13, .int t15), (12, .int t13), (11, .int t11), (10, .int t9), (0, .ref b), (1, .ref (A 0)), (2, .ref (A2 0)), (3, .ref (A3 0)), (4, .ref (A4 0)), (5, .ref (A5 0)), (6, .ref (A6 0)), (7, .ref (A7 0)), (8, .ref (A8 0)), (9, .int v111.1)]) hx hb dL_law_168 hl (by decide) rfl (fun ls hl => ?_)
              refine lv_iload hx hb dL_law_170 (lv_at hl 4 rfl) ?_
              refine lv_bipush (v := 6) hx hb dL_law_172 (by decide) ?_
              have J960 : ∀ (w960 : Int32 × TX5s × TV48s × TV48s × TV48s × TV48s × TV32s × TV32s × TV10s), f_L_law_j960 L xs (lpN (f_L_law_l111 L xs) n111) v111 w960 = some (1 : Int32) → ∀ (H : Heap) (locs : List Loc), WdG g Z s.heap H locs [wX5 g A 0 w960.2.1, [(A2 0, .inl (gI g, 48, .inl w960.2.2.1))], [(A3 0, .inl (gI g, 48, .inl w960.2.2.2.1))], [(A4 0, .inl (gI g, 48, .inl w960.2.2.2.2.1))], [(A5 0, .inl (gI g, 48, .inl w960.2.2.2.2.2.1))], [(A6 0, .inl (gI g, 32, .inl w960.2.2.2.2.2.2.1))], [(A7 0, .inl (gI g, 32, .inl w960.2.2.2.2.2.2.2.1))], [(A8 0, .inl (gI g, 10, .inl w960.2.2.2.2.2.2.2.2))]] → ∀ ls : Array Slot, lv_has ls 24 [(0, .ref b), (1, .ref (A 0)), (2, .ref (A2 0)), (3, .ref (A3 0)), (4, .ref (A4 0)), (5, .ref (A5 0)), (6, .ref (A6 0)), (7, .ref (A7 0)), (8, .ref (A8 0)), (9, .int v111.1), (15, .int w960.1)] → W p l e R s m args below meth c H locs kc ks Q (F0 m 960 ls []) := by
                intro w960 h H locs hW ls hl
                unfold f_L_law_j960 at h
                refine lv_iload hx hb dL_law_960 (lv_at hl 10 rfl) ?_
                refine lv_if_eq (tgt := 1001) hx hb dL_law_962 (by decide) (fun e17 => ?_) (fun e17 => ?_)
                · replace h := q_t e17 h
                  refine lv_iconst (v := 0) hx hb dL_law_1001 (by decide) ?_
                  exact absurd h (by decide)
                · replace h := q_f e17 h
                  refine lv_aload_n hx hb dL_law_965 rfl (lv_at hl 1 rfl) ?_
                  refine lv_aload_n hx hb dL_law_966 rfl (lv_at hl 2 rfl) ?_
                  refine lv_aload_n hx hb dL_law_967 rfl (lv_at hl 3 rfl) ?_
                  refine lv_aload hx hb dL_law_968 (lv_at hl 4 rfl) ?_
                  refine lv_aload hx hb dL_law_970 (lv_at hl 5 rfl) ?_
                  refine lv_aload hx hb dL_law_972 (lv_at hl 6 rfl) ?_
                  refine lv_aload hx hb dL_law_974 (lv_at hl 7 rfl) ?_
                  refine lv_aload hx hb dL_law_976 (lv_at hl 8 rfl) ?_
                  obtain ⟨t18, h19, h⟩ := q_b h
                  refine r_cSm C hW (nA := 8) (As := [.ref (A 0), .ref (A2 0), .ref (A3 0), .ref (A4 0), .ref (A5 0), .ref (A6 0), .ref (A7 0), .ref (A8 0)]) (rest := []) (c_L_road l g A 0 A2 0 A3 0 A4 0 A5 0 A6 0 A7 0 A8 0 w960.2.1 w960.2.2.1 w960.2.2.2.1 w960.2.2.2.2.1 w960.2.2.2.2.2.1 w960.2.2.2.2.2.2.1 w960.2.2.2.2.2.2.2.1 w960.2.2.2.2.2.2.2.2 _ _ h19) gL_law_L_road rfl wo_L_road (rmk hR rfl rfl) rfl rfl hl.1 (Nat.le_of_ble_eq_true rfl) ⟨by rw [hz.1]; omega, by rw [hz.2]; omega⟩ dL_law_978 (n := 8) (is := [0, 1, 2, 3, 4, 5, 6, 7]) (rs := []) (bs' := [wX5 g A 0 t18.2, [(A2 0, .inl (gI g, 48, .inl w960.2.2.1))], [(A3 0, .inl (gI g, 48, .inl w960.2.2.2.1))], [(A4 0, .inl (gI g, 48, .inl w960.2.2.2.2.1))], [(A5 0, .inl (gI g, 48, .inl w960.2.2.2.2.2.1))], [(A6 0, .inl (gI g, 32, .inl w960.2.2.2.2.2.2.1))], [(A7 0, .inl (gI g, 32, .inl w960.2.2.2.2.2.2.2.1))], [(A8 0, .inl (gI g, 10, .inl w960.2.2.2.2.2.2.2.2))]]) rfl rfl pm_fc798770 rfl rfl rfl (fun H locs hW => ?_)
                  refine lv_if_eq (tgt := 1001) hx hb dL_law_981 (by decide) (fun e20 => ?_) (fun e20 => ?_)
                  · replace h := q_t e20 h
                    refine lv_iconst (v := 0) hx hb dL_law_1001 (by decide) ?_
                    exact absurd h (by decide)
                  · replace h := q_f e20 h
                    refine lv_aload_n hx hb dL_law_984 rfl (lv_at hl 1 rfl) ?_
                    obtain ⟨t21, h22, h⟩ := q_b h
                    refine r_cVi C hW (nA := 0) (As := []) (rest := []) (c_X5_bestNight l g A 0 t18.2 _ h22) gL_law_X5_bestNight rfl ⟨rfl, wo_X5_bestNight⟩ (rmk hR rfl rfl) rfl rfl rfl rfl hl.1 (Nat.le_of_ble_eq_true rfl) ⟨by rw [hz.1]; omega, by rw [hz.2]; omega⟩ dL_law_985 (n := 8) (is := [0]) (rs := [1, 2, 3, 4, 5, 6, 7]) (bs' := [wX5 g A 0 t18.2, [(A2 0, .inl (gI g, 48, .inl w960.2.2.1))], [(A3 0, .inl (gI g, 48, .inl w960.2.2.2.1))], [(A4 0, .inl (gI g, 48, .inl w960.2.2.2.2.1))], [(A5 0, .inl (gI g, 48, .inl w960.2.2.2.2.2.1))], [(A6 0, .inl (gI g, 32, .inl w960.2.2.2.2.2.2.1))], [(A7 0, .inl (gI g, 32, .inl w960.2.2.2.2.2.2.2.1))], [(A8 0, .inl (gI g, 10, .inl w960.2.2.2.2.2.2.2.2))]]) rfl rfl pm_135268d1 (List.append_nil _) (List.append_nil _) rfl (fun H locs hW => ?_)
                    refine lv_aload_n hx hb dL_law_988 rfl (lv_at hl 3 rfl) ?_
                    refine lv_aload hx hb dL_law_989 (lv_at hl 5 rfl) ?_
                    refine lv_aload hx hb dL_law_991 (lv_at hl 7 rfl) ?_
                    refine lv_aload hx hb dL_law_993 (lv_at hl 8 rfl) ?_
                    obtain ⟨t23, h24, h⟩ := q_b h
                    refine r_cSi C hW (nA := 4) (As := [.ref (A3 0), .ref (A5 0), .ref (A7 0), .ref (A8 0)]) (rest := [.int t21]) (c_L_best l g A3 0 A5 0 A7 0 A8 0 w960.2.2.2.1 w960.2.2.2.2.2.1 w960.2.2.2.2.2.2.2.1 w960.2.2.2.2.2.2.2.2 _ h24) gL_law_L_best rfl wo_L_best (rmk hR rfl rfl) rfl rfl hl.1 (Nat.le_of_ble_eq_true rfl) ⟨by rw [hz.1]; omega, by rw [hz.2]; omega⟩ dL_law_995 (n := 8) (is := [2, 4, 6, 7]) (rs := [0, 1, 3, 5]) (bs' := [wX5 g A 0 t18.2, [(A2 0, .inl (gI g, 48, .inl w960.2.2.1))], [(A3 0, .inl (gI g, 48, .inl w960.2.2.2.1))], [(A4 0, .inl (gI g, 48, .inl w960.2.2.2.2.1))], [(A5 0, .inl (gI g, 48, .inl w960.2.2.2.2.2.1))], [(A6 0, .inl (gI g, 32, .inl w960.2.2.2.2.2.2.1))], [(A7 0, .inl (gI g, 32, .inl w960.2.2.2.2.2.2.2.1))], [(A8 0, .inl (gI g, 10, .inl w960.2.2.2.2.2.2.2.2))]]) rfl rfl pm_b1a69803 rfl rfl rfl (fun H locs hW => ?_)
                    refine lv_icmp_eq (tgt := 1003) hx hb dL_law_998 (by decide) (fun e25 => ?_) (fun e25 => ?_)
                    · replace h := q_t e25 h
                      refine lv_aload_n hx hb dL_law_1003 rfl (lv_at hl 0 rfl) ?_
                      refine lv_bipush (v := 72) hx hb dL_law_1004 (by decide) ?_
                      refine lv_iload hx hb dL_law_1006 (lv_at hl 9 rfl) ?_
                      refine lv_iadd hx hb dL_law_1008 ?_
                      obtain ⟨t26, h27, h⟩ := q_b h
                      refine r_cX C hW hX hbl hbZ (nA := 2) (As := [.ref b, .int (72 + v111.1)]) (rest := []) (c_L_cell l g b L xs (72 + v111.1) _ h27) gL_law_L_cell rfl wo_L_cell (rmk hR rfl rfl) rfl rfl hl.1 (Nat.le_of_ble_eq_true rfl) ⟨by rw [hz.1]; omega, by rw [hz.2]; omega⟩ dL_law_1009 (fun H locs hW => ?_)
                      refine lv_istore (lv' := [(16, .int t26), (0, .ref b), (1, .ref (A 0)), (2, .ref (A2 0)), (3, .ref (A3 0)), (4, .ref (A4 0)), (5, .ref (A5 0)), (6, .ref (A6 0)), (7, .ref (A7 0)), (8, .ref (A8 0)), (9, .int v111.1), (15, .int w960.1)]) hx hb dL_law_1012 hl (by decide) rfl (fun ls hl => ?_)
                      refine lv_iload hx hb dL_law_1014 (lv_at hl 0 rfl) ?_
                      refine lv_bipush (v := 48) hx hb dL_law_1016 (by decide) ?_
                      obtain ⟨t28, h29, h⟩ := q_b h
                      refine r_cSi C hW (nA := 2) (As := [.int t26, .int 48]) (rest := []) (c_L_low l g t26 48 _ h29) gL_law_L_low rfl wo_L_low (rmk hR rfl rfl) rfl rfl hl.1 (Nat.le_of_ble_eq_true rfl) ⟨by rw [hz.1]; omega, by rw [hz.2]; omega⟩ dL_law_1018 (n := 8) (is := []) (rs := [0, 1, 2, 3, 4, 5, 6, 7]) (bs' := [wX5 g A 0 t18.2, [(A2 0, .inl (gI g, 48, .inl w960.2.2.1))], [(A3 0, .inl (gI g, 48, .inl w960.2.2.2.1))], [(A4 0, .inl (gI g, 48, .inl w960.2.2.2.2.1))], [(A5 0, .inl (gI g, 48, .inl w960.2.2.2.2.2.1))], [(A6 0, .inl (gI g, 32, .inl w960.2.2.2.2.2.2.1))], [(A7 0, .inl (gI g, 32, .inl w960.2.2.2.2.2.2.2.1))], [(A8 0, .inl (gI g, 10, .inl w960.2.2.2.2.2.2.2.2))]]) rfl rfl pm_5c3e962e rfl rfl rfl (fun H locs hW => ?_)
                      refine lv_istore (lv' := [(17, .int t28), (16, .int t26), (0, .ref b), (1, .ref (A 0)), (2, .ref (A2 0)), (3, .ref (A3 0)), (4, .ref (A4 0)), (5, .ref (A5 0)), (6, .ref (A6 0)), (7, .ref (A7 0)), (8, .ref (A8 0)), (9, .int v111.1), (15, .int w960.1)]) hx hb dL_law_1021 hl (by decide) rfl (fun ls hl => ?_)
                      refine lv_aload hx hb dL_law_1023 (lv_at hl 6 rfl) ?_
                      refine lv_iload hx hb dL_law_1025 (lv_at hl 0 rfl) ?_
                      obtain ⟨g30, h⟩ := q_g h
                      refine r_iald C hW 3 0 rfl rfl g30 dL_law_1027 ?_
                      have J1037 : ∀ (w1037 : Int32), f_L_law_j1037 (lpN (f_L_law_l111 L xs) n111) v111 w960 t18 t26 t28 w1037 = some (1 : Int32) → ∀ (H : Heap) (locs : List Loc), WdG g Z s.heap H locs [wX5 g A 0 t18.2, [(A2 0, .inl (gI g, 48, .inl w960.2.2.1))], [(A3 0, .inl (gI g, 48, .inl w960.2.2.2.1))], [(A4 0, .inl (gI g, 48, .inl w960.2.2.2.2.1))], [(A5 0, .inl (gI g, 48, .inl w960.2.2.2.2.2.1))], [(A6 0, .inl (gI g, 32, .inl w960.2.2.2.2.2.2.1))], [(A7 0, .inl (gI g, 32, .inl w960.2.2.2.2.2.2.2.1))], [(A8 0, .inl (gI g, 10, .inl w960.2.2.2.2.2.2.2.2))]] → ∀ ls : Array Slot, lv_has ls 24 [(0, .ref b), (1, .ref (A 0)), (2, .ref (A2 0)), (3, .ref (A3 0)), (4, .ref (A4 0)), (5, .ref (A5 0)), (6, .ref (A6 0)), (7, .ref (A7 0)), (8, .ref (A8 0)), (9, .int v111.1), (16, .int t26), (17, .int t28)] → W p l e R s m args below meth c H locs (kc + 7) (ks + 336) Q (F0 m 1037 ls [.int w1037]) := by
                        intro w1037 h H locs hW ls hl
                        unfold f_L_law_j1037 at h
                        refine lv_istore (lv' := [(18, .int w1037), (0, .ref b), (1, .ref (A 0)), (2, .ref (A2 0)), (3, .ref (A3 0)), (4, .ref (A4 0)), (5, .ref (A5 0)), (6, .ref (A6 0)), (7, .ref (A7 0)), (8, .ref (A8 0)), (9, .int v111.1), (16, .int t26), (17, .int t28)]) hx hb dL_law_1037 hl (by decide) rfl (fun ls hl => ?_)
                        refine lv_aload hx hb dL_law_1039 (lv_at hl 6 rfl) ?_
                        refine lv_iload hx hb dL_law_1041 (lv_at hl 12 rfl) ?_
                        obtain ⟨g31, h⟩ := q_g h
                        refine r_iald C hW 4 0 rfl rfl g31 dL_law_1043 ?_
                        refine lv_istore (lv' := [(19, .int (w960.2.2.2.2.2.1 (t28).toNatClampNeg)), (18, .int w1037), (0, .ref b), (1, .ref (A 0)), (2, .ref (A2 0)), (3, .ref (A3 0)), (4, .ref (A4 0)), (5, .ref (A5 0)), (6, .ref (A6 0)), (7, .ref (A7 0)), (8, .ref (A8 0)), (9, .int v111.1), (16, .int t26), (17, .int t28)]) hx hb dL_law_1044 hl (by decide) rfl (fun ls hl => ?_)
                        refine lv_aload hx hb dL_law_1046 (lv_at hl 6 rfl) ?_
                        refine lv_iload hx hb dL_law_1048 (lv_at hl 13 rfl) ?_
                        obtain ⟨g32, h⟩ := q_g h
                        refine r_iald C hW 3 0 rfl rfl g32 dL_law_1050 ?_
                        have J1088 : ∀ (w1088 : Int32), f_L_law_j1088 (lpN (f_L_law_l111 L xs) n111) v111 w960 t18 t26 t28 w1037 w1088 = some (1 : Int32) → ∀ (H : Heap) (locs : List Loc), WdG g Z s.heap H locs [wX5 g A 0 t18.2, [(A2 0, .inl (gI g, 48, .inl w960.2.2.1))], [(A3 0, .inl (gI g, 48, .inl w960.2.2.2.1))], [(A4 0, .inl (gI g, 48, .inl w960.2.2.2.2.1))], [(A5 0, .inl (gI g, 48, .inl w960.2.2.2.2.2.1))], [(A6 0, .inl (gI g, 32, .inl w960.2.2.2.2.2.2.1))], [(A7 0, .inl (gI g, 32, .inl w960.2.2.2.2.2.2.2.1))], [(A8 0, .inl (gI g, 10, .inl w960.2.2.2.2.2.2.2.2))]] → ∀ ls : Array Slot, lv_has ls 24 [(0, .ref b), (1, .ref (A 0)), (2, .ref (A2 0)), (3, .ref (A3 0)), (4, .ref (A4 0)), (5, .ref (A5 0)), (6, .ref (A6 0)), (7, .ref (A7 0)), (8, .ref (A8 0)), (9, .int v111.1), (16, .int t26), (17, .int t28), (18, .int w1037), (19, .int (w960.2.2.2.2.2.1 (t28).toNatClampNeg))] → W p l e R s m args below meth c H locs (kc + 7) (ks + 336) Q (F0 m 1088 ls [.int w1088]) := by
                          intro w1088 h H locs hW ls hl
                          unfold f_L_law_j1088 at h
                          refine lv_istore (lv' := [(20, .int w1088), (0, .ref b), (1, .ref (A 0)), (2, .ref (A2 0)), (3, .ref (A3 0)), (4, .ref (A4 0)), (5, .ref (A5 0)), (6, .ref (A6 0)), (7, .ref (A7 0)), (8, .ref (A8 0)), (9, .int v111.1), (16, .int t26), (17, .int t28), (18, .int w1037), (19, .int (w960.2.2.2.2.2.1 (t28).toNatClampNeg))]) hx hb dL_law_1088 hl (by decide) rfl (fun ls hl => ?_)
                          have L1090 : ∀ n1090 : Nat, ∀ (v1090 : Int32 × Int32), lpN (f_L_law_l1090 (lpN (f_L_law_l111 L xs) n111) v111 w960 t18 t26 t28 w1088) n1090 v1090 = some (1 : Int32) → ∀ (H : Heap) (locs : List Loc), WdG g Z s.heap H locs [wX5 g A 0 t18.2, [(A2 0, .inl (gI g, 48, .inl w960.2.2.1))], [(A3 0, .inl (gI g, 48, .inl w960.2.2.2.1))], [(A4 0, .inl (gI g, 48, .inl w960.2.2.2.2.1))], [(A5 0, .inl (gI g, 48, .inl w960.2.2.2.2.2.1))], [(A6 0, .inl (gI g, 32, .inl w960.2.2.2.2.2.2.1))], [(A7 0, .inl (gI g, 32, .inl w960.2.2.2.2.2.2.2.1))], [(A8 0, .inl (gI g, 10, .inl w960.2.2.2.2.2.2.2.2))]] → ∀ ls : Array Slot, lv_has ls 24 [(0, .ref b), (1, .ref (A 0)), (2, .ref (A2 0)), (3, .ref (A3 0)), (4, .ref (A4 0)), (5, .ref (A5 0)), (6, .ref (A6 0)), (7, .ref (A7 0)), (8, .ref (A8 0)), (9, .int v111.1), (16, .int t26), (17, .int t28), (18, .int v1090.1), (19, .int v1090.2), (20, .int w1088)] → W p l e R s m args below meth c H locs (kc + 7) (ks + 336) Q (F0 m 1090 ls []) := by
                            intro n1090
                            induction n1090 with
                            | zero => intro v1090 h; exact absurd (show none = some (1 : Int32) from h) (fun h => by cases h)
                            | succ n1090 ih1090 =>
                              intro v1090 h H locs hW ls hl
                              replace h : f_L_law_l1090 (lpN (f_L_law_l111 L xs) n111) v111 w960 t18 t26 t28 w1088 (lpN (f_L_law_l1090 (lpN (f_L_law_l111 L xs) n111) v111 w960 t18 t26 t28 w1088) n1090) v1090 = some (1 : Int32) := h
                              unfold f_L_law_l1090 at h
                              refine lv_aload hx hb dL_law_1090 (lv_at hl 4 rfl) ?_
                              refine lv_iload hx hb dL_law_1092 (lv_at hl 11 rfl) ?_
                              obtain ⟨g33, h⟩ := q_g h
                              refine r_iald C hW 3 0 rfl rfl g33 dL_law_1094 ?_
                              have J1141 : ∀ (w1141 : Unit), f_L_law_j1141 (lpN (f_L_law_l111 L xs) n111) v111 w960 t18 t26 t28 v1090 w1141 = some (1 : Int32) → ∀ (H : Heap) (locs : List Loc), WdG g Z s.heap H locs [wX5 g A 0 t18.2, [(A2 0, .inl (gI g, 48, .inl w960.2.2.1))], [(A3 0, .inl (gI g, 48, .inl w960.2.2.2.1))], [(A4 0, .inl (gI g, 48, .inl w960.2.2.2.2.1))], [(A5 0, .inl (gI g, 48, .inl w960.2.2.2.2.2.1))], [(A6 0, .inl (gI g, 32, .inl w960.2.2.2.2.2.2.1))], [(A7 0, .inl (gI g, 32, .inl w960.2.2.2.2.2.2.2.1))], [(A8 0, .inl (gI g, 10, .inl w960.2.2.2.2.2.2.2.2))]] → ∀ ls : Array Slot, lv_has ls 24 [(0, .ref b), (1, .ref (A 0)), (2, .ref (A2 0)), (3, .ref (A3 0)), (4, .ref (A4 0)), (5, .ref (A5 0)), (6, .ref (A6 0)), (7, .ref (A7 0)), (8, .ref (A8 0)), (9, .int v111.1), (16, .int t26), (17, .int t28), (18, .int v1090.1)] → W p l e R s m args below meth c H locs (kc + 7) (ks + 336) Q (F0 m 1141 ls []) := by
                                intro w1141 h H locs hW ls hl
                                unfold f_L_law_j1141 at h
                                refine lv_iload hx hb dL_law_1141 (lv_at hl 10 rfl) ?_
                                refine lv_bipush (v := 6) hx hb dL_law_1143 (by decide) ?_
                                refine lv_ishr hx hb dL_law_1145 ?_
                                refine lv_iconst (v := 3) hx hb dL_law_1146 (by decide) ?_
                                obtain ⟨t34, h35, h⟩ := q_b h
                                refine r_cSi C hW (nA := 2) (As := [.int (t26 >>> ((6 : Int32) &&& 31)), .int 3]) (rest := []) (c_L_low l g (t26 >>> ((6 : Int32) &&& 31)) 3 _ h35) gL_law_L_low rfl wo_L_low (rmk hR rfl rfl) rfl rfl hl.1 (Nat.le_of_ble_eq_true rfl) ⟨by rw [hz.1]; omega, by rw [hz.2]; omega⟩ dL_law_1147 (n := 8) (is := []) (rs := [0, 1, 2, 3, 4, 5, 6, 7]) (bs' := [wX5 g A 0 t18.2, [(A2 0, .inl (gI g, 48, .inl w960.2.2.1))], [(A3 0, .inl (gI g, 48, .inl w960.2.2.2.1))], [(A4 0, .inl (gI g, 48, .inl w960.2.2.2.2.1))], [(A5 0, .inl (gI g, 48, .inl w960.2.2.2.2.2.1))], [(A6 0, .inl (gI g, 32, .inl w960.2.2.2.2.2.2.1))], [(A7 0, .inl (gI g, 32, .inl w960.2.2.2.2.2.2.2.1))], [(A8 0, .inl (gI g, 10, .inl w960.2.2.2.2.2.2.2.2))]]) rfl rfl pm_5c3e962e rfl rfl rfl (fun H locs hW => ?_)
                                refine lv_istore (lv' := [(21, .int t34), (0, .ref b), (1, .ref (A 0)), (2, .ref (A2 0)), (3, .ref (A3 0)), (4, .ref (A4 0)), (5, .ref (A5 0)), (6, .ref (A6 0)), (7, .ref (A7 0)), (8, .ref (A8 0)), (9, .int v111.1), (16, .int t26), (17, .int t28), (18, .int v1090.1)]) hx hb dL_law_1150 hl (by decide) rfl (fun ls hl => ?_)
                                refine lv_iload hx hb dL_law_1152 (lv_at hl 0 rfl) ?_
                                refine lv_iconst (v := 1) hx hb dL_law_1154 (by decide) ?_
                                have J1173 : ∀ (w1173 : Int32), f_L_law_j1173 (lpN (f_L_law_l111 L xs) n111) v111 w960 t18 t26 t28 v1090 t34 w1173 = some (1 : Int32) → ∀ (H : Heap) (locs : List Loc), WdG g Z s.heap H locs [wX5 g A 0 t18.2, [(A2 0, .inl (gI g, 48, .inl w960.2.2.1))], [(A3 0, .inl (gI g, 48, .inl w960.2.2.2.1))], [(A4 0, .inl (gI g, 48, .inl w960.2.2.2.2.1))], [(A5 0, .inl (gI g, 48, .inl w960.2.2.2.2.2.1))], [(A6 0, .inl (gI g, 32, .inl w960.2.2.2.2.2.2.1))], [(A7 0, .inl (gI g, 32, .inl w960.2.2.2.2.2.2.2.1))], [(A8 0, .inl (gI g, 10, .inl w960.2.2.2.2.2.2.2.2))]] → ∀ ls : Array Slot, lv_has ls 24 [(0, .ref b), (1, .ref (A 0)), (2, .ref (A2 0)), (3, .ref (A3 0)), (4, .ref (A4 0)), (5, .ref (A5 0)), (6, .ref (A6 0)), (7, .ref (A7 0)), (8, .ref (A8 0)), (9, .int v111.1), (16, .int t26), (17, .int t28), (18, .int v1090.1), (21, .int t34)] → W p l e R s m args below meth c H locs (kc + 7) (ks + 336) Q (F0 m 1173 ls [.int w1173]) := by
                                  intro w1173 h H locs hW ls hl
                                  unfold f_L_law_j1173 at h
                                  refine lv_istore (lv' := [(22, .int w1173), (0, .ref b), (1, .ref (A 0)), (2, .ref (A2 0)), (3, .ref (A3 0)), (4, .ref (A4 0)), (5, .ref (A5 0)), (6, .ref (A6 0)), (7, .ref (A7 0)), (8, .ref (A8 0)), (9, .int v111.1), (16, .int t26), (17, .int t28), (18, .int v1090.1), (21, .int t34)]) hx hb dL_law_1173 hl (by decide) rfl (fun ls hl => ?_)
                                  refine lv_iload hx hb dL_law_1175 (lv_at hl 11 rfl) ?_
                                  refine lv_bipush (v := 9) hx hb dL_law_1177 (by decide) ?_
                                  refine lv_ishr hx hb dL_law_1179 ?_
                                  refine lv_iconst (v := 2) hx hb dL_law_1180 (by decide) ?_
                                  obtain ⟨t36, h37, h⟩ := q_b h
                                  refine r_cSi C hW (nA := 2) (As := [.int (t26 >>> ((9 : Int32) &&& 31)), .int 2]) (rest := []) (c_L_low l g (t26 >>> ((9 : Int32) &&& 31)) 2 _ h37) gL_law_L_low rfl wo_L_low (rmk hR rfl rfl) rfl rfl hl.1 (Nat.le_of_ble_eq_true rfl) ⟨by rw [hz.1]; omega, by rw [hz.2]; omega⟩ dL_law_1181 (n := 8) (is := []) (rs := [0, 1, 2, 3, 4, 5, 6, 7]) (bs' := [wX5 g A 0 t18.2, [(A2 0, .inl (gI g, 48, .inl w960.2.2.1))], [(A3 0, .inl (gI g, 48, .inl w960.2.2.2.1))], [(A4 0, .inl (gI g, 48, .inl w960.2.2.2.2.1))], [(A5 0, .inl (gI g, 48, .inl w960.2.2.2.2.2.1))], [(A6 0, .inl (gI g, 32, .inl w960.2.2.2.2.2.2.1))], [(A7 0, .inl (gI g, 32, .inl w960.2.2.2.2.2.2.2.1))], [(A8 0, .inl (gI g, 10, .inl w960.2.2.2.2.2.2.2.2))]]) rfl rfl pm_5c3e962e rfl rfl rfl (fun H locs hW => ?_)
                                  refine lv_istore (lv' := [(23, .int t36), (22, .int w1173), (0, .ref b), (1, .ref (A 0)), (2, .ref (A2 0)), (3, .ref (A3 0)), (4, .ref (A4 0)), (5, .ref (A5 0)), (6, .ref (A6 0)), (7, .ref (A7 0)), (8, .ref (A8 0)), (9, .int v111.1), (16, .int t26), (17, .int t28), (18, .int v1090.1), (21, .int t34)]) hx hb dL_law_1184 hl (by decide) rfl (fun ls hl => ?_)
                                  refine lv_aload_n hx hb dL_law_1186 rfl (lv_at hl 3 rfl) ?_
                                  refine lv_iload hx hb dL_law_1187 (lv_at hl 13 rfl) ?_
                                  refine lv_bipush (v := 16) hx hb dL_law_1189 (by decide) ?_
                                  have g38 : ¬ (16 : Int32) = 0 := by decide
                                  refine lv_idiv hx hb dL_law_1191 g38 ?_
                                  refine lv_iload hx hb dL_law_1192 (lv_at hl 13 rfl) ?_
                                  refine lv_bipush (v := 16) hx hb dL_law_1194 (by decide) ?_
                                  have g39 : ¬ (16 : Int32) = 0 := by decide
                                  refine lv_irem hx hb dL_law_1196 g39 ?_
                                  obtain ⟨t40, h41, h⟩ := q_b h
                                  refine r_cVi C hW (nA := 2) (As := [.int (t28 / 16), .int (t28 - t28 / 16 * 16)]) (rest := []) (c_X5_readableFor l g A 0 t18.2 (t28 / 16) (t28 - t28 / 16 * 16) _ h41) gL_law_X5_readableFor rfl ⟨rfl, wo_X5_readableFor⟩ (rmk hR rfl rfl) rfl rfl rfl rfl hl.1 (Nat.le_of_ble_eq_true rfl) ⟨by rw [hz.1]; omega, by rw [hz.2]; omega⟩ dL_law_1197 (n := 8) (is := [0]) (rs := [1, 2, 3, 4, 5, 6, 7]) (bs' := [wX5 g A 0 t18.2, [(A2 0, .inl (gI g, 48, .inl w960.2.2.1))], [(A3 0, .inl (gI g, 48, .inl w960.2.2.2.1))], [(A4 0, .inl (gI g, 48, .inl w960.2.2.2.2.1))], [(A5 0, .inl (gI g, 48, .inl w960.2.2.2.2.2.1))], [(A6 0, .inl (gI g, 32, .inl w960.2.2.2.2.2.2.1))], [(A7 0, .inl (gI g, 32, .inl w960.2.2.2.2.2.2.2.1))], [(A8 0, .inl (gI g, 10, .inl w960.2.2.2.2.2.2.2.2))]]) rfl rfl pm_135268d1 (List.append_nil _) (List.append_nil _) rfl (fun H locs hW => ?_)
                                  refine lv_iload hx hb dL_law_1200 (lv_at hl 14 rfl) ?_
                                  refine lv_icmp_ne (tgt := 1248) hx hb dL_law_1202 (by decide) (fun e42 => ?_) (fun e42 => ?_)
                                  · replace h := q_f e42 h
                                    refine lv_iconst (v := 0) hx hb dL_law_1248 (by decide) ?_
                                    exact absurd h (by decide)
                                  · replace h := q_t e42 h
                                    refine lv_aload_n hx hb dL_law_1205 rfl (lv_at hl 3 rfl) ?_
                                    refine lv_iload hx hb dL_law_1206 (lv_at hl 15 rfl) ?_
                                    refine lv_iload hx hb dL_law_1208 (lv_at hl 1 rfl) ?_
                                    refine lv_iload hx hb dL_law_1210 (lv_at hl 13 rfl) ?_
                                    refine lv_bipush (v := 16) hx hb dL_law_1212 (by decide) ?_
                                    have g43 : ¬ (16 : Int32) = 0 := by decide
                                    refine lv_irem hx hb dL_law_1214 g43 ?_
                                    refine lv_iload hx hb dL_law_1215 (lv_at hl 0 rfl) ?_
                                    obtain ⟨t44, h45, h⟩ := q_b h
                                    refine r_cVi C hW (nA := 4) (As := [.int t34, .int w1173, .int (t28 - t28 / 16 * 16), .int t36]) (rest := []) (c_X5_mayChange l g A 0 t18.2 t34 w1173 (t28 - t28 / 16 * 16) t36 _ h45) gL_law_X5_mayChange rfl ⟨rfl, wo_X5_mayChange⟩ (rmk hR rfl rfl) rfl rfl rfl rfl hl.1 (Nat.le_of_ble_eq_true rfl) ⟨by rw [hz.1]; omega, by rw [hz.2]; omega⟩ dL_law_1217 (n := 8) (is := [0]) (rs := [1, 2, 3, 4, 5, 6, 7]) (bs' := [wX5 g A 0 t18.2, [(A2 0, .inl (gI g, 48, .inl w960.2.2.1))], [(A3 0, .inl (gI g, 48, .inl w960.2.2.2.1))], [(A4 0, .inl (gI g, 48, .inl w960.2.2.2.2.1))], [(A5 0, .inl (gI g, 48, .inl w960.2.2.2.2.2.1))], [(A6 0, .inl (gI g, 32, .inl w960.2.2.2.2.2.2.1))], [(A7 0, .inl (gI g, 32, .inl w960.2.2.2.2.2.2.2.1))], [(A8 0, .inl (gI g, 10, .inl w960.2.2.2.2.2.2.2.2))]]) rfl rfl pm_135268d1 (List.append_nil _) (List.append_nil _) rfl (fun H locs hW => ?_)
                                    refine lv_aload_n hx hb dL_law_1220 rfl (lv_at hl 4 rfl) ?_
                                    refine lv_aload hx hb dL_law_1221 (lv_at hl 8 rfl) ?_
                                    refine lv_iload hx hb dL_law_1223 (lv_at hl 15 rfl) ?_
                                    refine lv_iload hx hb dL_law_1225 (lv_at hl 1 rfl) ?_
                                    refine lv_iload hx hb dL_law_1227 (lv_at hl 13 rfl) ?_
                                    refine lv_bipush (v := 16) hx hb dL_law_1229 (by decide) ?_
                                    have g46 : ¬ (16 : Int32) = 0 := by decide
                                    refine lv_irem hx hb dL_law_1231 g46 ?_
                                    refine lv_iload hx hb dL_law_1232 (lv_at hl 0 rfl) ?_
                                    obtain ⟨t47, h48, h⟩ := q_b h
                                    refine r_cSi C hW (nA := 6) (As := [.ref (A2 0), .ref (A6 0), .int t34, .int w1173, .int (t28 - t28 / 16 * 16), .int t36]) (rest := [.int t44]) (c_L_change l g A2 0 A6 0 w960.2.2.1 w960.2.2.2.2.2.2.1 t34 w1173 (t28 - t28 / 16 * 16) t36 _ h48) gL_law_L_change rfl wo_L_change (rmk hR rfl rfl) rfl rfl hl.1 (Nat.le_of_ble_eq_true rfl) ⟨by rw [hz.1]; omega, by rw [hz.2]; omega⟩ dL_law_1234 (n := 8) (is := [1, 5]) (rs := [0, 2, 3, 4, 6, 7]) (bs' := [wX5 g A 0 t18.2, [(A2 0, .inl (gI g, 48, .inl w960.2.2.1))], [(A3 0, .inl (gI g, 48, .inl w960.2.2.2.1))], [(A4 0, .inl (gI g, 48, .inl w960.2.2.2.2.1))], [(A5 0, .inl (gI g, 48, .inl w960.2.2.2.2.2.1))], [(A6 0, .inl (gI g, 32, .inl w960.2.2.2.2.2.2.1))], [(A7 0, .inl (gI g, 32, .inl w960.2.2.2.2.2.2.2.1))], [(A8 0, .inl (gI g, 10, .inl w960.2.2.2.2.2.2.2.2))]]) rfl rfl pm_938efe57 rfl rfl rfl (fun H locs hW => ?_)
                                    have J1245 : ∀ (w1245 : Int32), f_L_law_j1245 (lpN (f_L_law_l111 L xs) n111) v111 w960 t18 t44 w1245 = some (1 : Int32) → ∀ (H : Heap) (locs : List Loc), WdG g Z s.heap H locs [wX5 g A 0 t18.2, [(A2 0, .inl (gI g, 48, .inl w960.2.2.1))], [(A3 0, .inl (gI g, 48, .inl w960.2.2.2.1))], [(A4 0, .inl (gI g, 48, .inl w960.2.2.2.2.1))], [(A5 0, .inl (gI g, 48, .inl w960.2.2.2.2.2.1))], [(A6 0, .inl (gI g, 32, .inl w960.2.2.2.2.2.2.1))], [(A7 0, .inl (gI g, 32, .inl w960.2.2.2.2.2.2.2.1))], [(A8 0, .inl (gI g, 10, .inl w960.2.2.2.2.2.2.2.2))]] → ∀ ls : Array Slot, lv_has ls 24 [(0, .ref b), (1, .ref (A 0)), (2, .ref (A2 0)), (3, .ref (A3 0)), (4, .ref (A4 0)), (5, .ref (A5 0)), (6, .ref (A6 0)), (7, .ref (A7 0)), (8, .ref (A8 0)), (9, .int v111.1)] → W p l e R s m args below meth c H locs (kc + 7) (ks + 336) Q (F0 m 1245 ls [.int w1245, .int t44]) := by
                                      intro w1245 h H locs hW ls hl
                                      unfold f_L_law_j1245 at h
                                      refine lv_icmp_eq (tgt := 1250) hx hb dL_law_1245 (by decide) (fun e49 => ?_) (fun e49 => ?_)
                                      · replace h := q_t e49 h
                                        refine lv_iinc (v := (v111.1 + 1)) (lv' := [(9, .int (v111.1 + 1)), (0, .ref b), (1, .ref (A 0)), (2, .ref (A2 0)), (3, .ref (A3 0)), (4, .ref (A4 0)), (5, .ref (A5 0)), (6, .ref (A6 0)), (7, .ref (A7 0)), (8, .ref (A8 0))]) hx hb dL_law_1250 hl (k := 9) rfl rfl (by decide) rfl (fun ls hl => ?_)
                                        refine lv_goto (tgt := 111) hx hb dL_law_1253 (by decide) ?_
                                        exact ih111 _ _ (by omega) (by omega) ((v111.1 + 1), t18.2, w960.2.2.1, w960.2.2.2.1, w960.2.2.2.2.1, w960.2.2.2.2.2.1, w960.2.2.2.2.2.2.1, w960.2.2.2.2.2.2.2.1, w960.2.2.2.2.2.2.2.2) h _ _ hW _ (lv_sub hl [1, 2, 3, 4, 5, 6, 7, 8, 9, 0] rfl)
                                      · replace h := q_f e49 h
                                        refine lv_iconst (v := 0) hx hb dL_law_1248 (by decide) ?_
                                        exact absurd h (by decide)
                                    refine lv_if_eq (tgt := 1244) hx hb dL_law_1237 (by decide) (fun e50 => ?_) (fun e50 => ?_)
                                    · replace h := q_t e50 h
                                      refine lv_iconst (v := 0) hx hb dL_law_1244 (by decide) ?_
                                      exact J1245 0 h _ _ hW _ (lv_sub hl [2, 3, 4, 5, 6, 7, 8, 9, 10, 11] rfl)
                                    · replace h := q_f e50 h
                                      refine lv_iconst (v := 1) hx hb dL_law_1240 (by decide) ?_
                                      refine lv_goto (tgt := 1245) hx hb dL_law_1241 (by decide) ?_
                                      exact J1245 1 h _ _ hW _ (lv_sub hl [2, 3, 4, 5, 6, 7, 8, 9, 10, 11] rfl)
                                refine lv_icmp_ne (tgt := 1172) hx hb dL_law_1155 (by decide) (fun e51 => ?_) (fun e51 => ?_)
                                · replace h := q_f e51 h
                                  refine lv_iconst (v := 1) hx hb dL_law_1172 (by decide) ?_
                                  exact J1173 1 h _ _ hW _ (lv_sub hl [1, 2, 3, 4, 5, 6, 7, 8, 9, 10, 11, 12, 13, 0] rfl)
                                · replace h := q_t e51 h
                                  refine lv_iconst (v := 2) hx hb dL_law_1158 (by decide) ?_
                                  refine lv_iload hx hb dL_law_1159 (lv_at hl 11 rfl) ?_
                                  refine lv_bipush (v := 8) hx hb dL_law_1161 (by decide) ?_
                                  refine lv_ishr hx hb dL_law_1163 ?_
                                  refine lv_iconst (v := 2) hx hb dL_law_1164 (by decide) ?_
                                  obtain ⟨t52, h53, h⟩ := q_b h
                                  refine r_cSi C hW (nA := 2) (As := [.int (t26 >>> ((8 : Int32) &&& 31)), .int 2]) (rest := [.int 2]) (c_L_low l g (t26 >>> ((8 : Int32) &&& 31)) 2 _ h53) gL_law_L_low rfl wo_L_low (rmk hR rfl rfl) rfl rfl hl.1 (Nat.le_of_ble_eq_true rfl) ⟨by rw [hz.1]; omega, by rw [hz.2]; omega⟩ dL_law_1165 (n := 8) (is := []) (rs := [0, 1, 2, 3, 4, 5, 6, 7]) (bs' := [wX5 g A 0 t18.2, [(A2 0, .inl (gI g, 48, .inl w960.2.2.1))], [(A3 0, .inl (gI g, 48, .inl w960.2.2.2.1))], [(A4 0, .inl (gI g, 48, .inl w960.2.2.2.2.1))], [(A5 0, .inl (gI g, 48, .inl w960.2.2.2.2.2.1))], [(A6 0, .inl (gI g, 32, .inl w960.2.2.2.2.2.2.1))], [(A7 0, .inl (gI g, 32, .inl w960.2.2.2.2.2.2.2.1))], [(A8 0, .inl (gI g, 10, .inl w960.2.2.2.2.2.2.2.2))]]) rfl rfl pm_5c3e962e rfl rfl rfl (fun H locs hW => ?_)
                                  refine lv_imul hx hb dL_law_1168 ?_
                                  refine lv_goto (tgt := 1173) hx hb dL_law_1169 (by decide) ?_
                                  exact J1173 (2 * t52) h _ _ hW _ (lv_sub hl [1, 2, 3, 4, 5, 6, 7, 8, 9, 10, 11, 12, 13, 0] rfl)
                              refine lv_if_lt (tgt := 1141) hx hb dL_law_1095 (by decide) (fun e54 => ?_) (fun e54 => ?_)
                              · replace h := q_t e54 h
                                exact J1141 () h _ _ hW _ (lv_sub hl [0, 1, 2, 3, 4, 5, 6, 7, 8, 9, 10, 11, 12] rfl)
                              · replace h := q_f e54 h
                                refine lv_iload hx hb dL_law_1098 (lv_at hl 13 rfl) ?_
                                refine lv_aload hx hb dL_law_1100 (lv_at hl 8 rfl) ?_
                                refine lv_iconst (v := 0) hx hb dL_law_1102 (by decide) ?_
                                obtain ⟨g55, h⟩ := q_g h
                                refine r_iald C hW 7 0 rfl rfl g55 dL_law_1103 ?_
                                refine lv_icmp_lt (tgt := 1141) hx hb dL_law_1104 (by decide) (fun e56 => ?_) (fun e56 => ?_)
                                · replace h := q_t e56 h
                                  exact J1141 () h _ _ hW _ (lv_sub hl [0, 1, 2, 3, 4, 5, 6, 7, 8, 9, 10, 11, 12] rfl)
                                · replace h := q_f e56 h
                                  refine lv_iload hx hb dL_law_1107 (lv_at hl 12 rfl) ?_
                                  refine lv_if_lt (tgt := 1141) hx hb dL_law_1109 (by decide) (fun e57 => ?_) (fun e57 => ?_)
                                  · replace h := q_t e57 h
                                    exact J1141 () h _ _ hW _ (lv_sub hl [0, 1, 2, 3, 4, 5, 6, 7, 8, 9, 10, 11, 12] rfl)
                                  · replace h := q_f e57 h
                                    refine lv_iload hx hb dL_law_1112 (lv_at hl 13 rfl) ?_
                                    refine lv_iload hx hb dL_law_1114 (lv_at hl 14 rfl) ?_
                                    refine lv_isub hx hb dL_law_1116 ?_
                                    refine lv_istore (lv' := [(19, .int (v1090.2 - w1088)), (0, .ref b), (1, .ref (A 0)), (2, .ref (A2 0)), (3, .ref (A3 0)), (4, .ref (A4 0)), (5, .ref (A5 0)), (6, .ref (A6 0)), (7, .ref (A7 0)), (8, .ref (A8 0)), (9, .int v111.1), (16, .int t26), (17, .int t28), (18, .int v1090.1), (20, .int w1088)]) hx hb dL_law_1117 hl (by decide) rfl (fun ls hl => ?_)
                                    refine lv_iload hx hb dL_law_1119 (lv_at hl 13 rfl) ?_
                                    refine lv_sipush (v := 300) hx hb dL_law_1121 (by decide) ?_
                                    refine lv_icmp_ne (tgt := 1132) hx hb dL_law_1124 (by decide) (fun e58 => ?_) (fun e58 => ?_)
                                    · replace h := q_f e58 h
                                      refine lv_iload hx hb dL_law_1132 (lv_at hl 13 rfl) ?_
                                      refine lv_iconst (v := 1) hx hb dL_law_1134 (by decide) ?_
                                      refine lv_iadd hx hb dL_law_1135 ?_
                                      refine lv_istore (lv' := [(18, .int (v1090.1 + 1)), (19, .int (v1090.2 - w1088)), (0, .ref b), (1, .ref (A 0)), (2, .ref (A2 0)), (3, .ref (A3 0)), (4, .ref (A4 0)), (5, .ref (A5 0)), (6, .ref (A6 0)), (7, .ref (A7 0)), (8, .ref (A8 0)), (9, .int v111.1), (16, .int t26), (17, .int t28), (20, .int w1088)]) hx hb dL_law_1136 hl (by decide) rfl (fun ls hl => ?_)
                                      refine lv_goto (tgt := 1090) hx hb dL_law_1138 (by decide) ?_
                                      exact ih1090 ((v1090.1 + 1), (v1090.2 - w1088)) h _ _ hW _ (lv_sub hl [2, 3, 4, 5, 6, 7, 8, 9, 10, 11, 12, 13, 0, 1, 14] rfl)
                                    · replace h := q_t e58 h
                                      refine lv_bipush (v := (-6)) hx hb dL_law_1127 (by decide) ?_
                                      refine lv_goto (tgt := 1136) hx hb dL_law_1129 (by decide) ?_
                                      refine lv_istore (lv' := [(18, .int (-6)), (19, .int (v1090.2 - w1088)), (0, .ref b), (1, .ref (A 0)), (2, .ref (A2 0)), (3, .ref (A3 0)), (4, .ref (A4 0)), (5, .ref (A5 0)), (6, .ref (A6 0)), (7, .ref (A7 0)), (8, .ref (A8 0)), (9, .int v111.1), (16, .int t26), (17, .int t28), (20, .int w1088)]) hx hb dL_law_1136 hl (by decide) rfl (fun ls hl => ?_)
                                      refine lv_goto (tgt := 1090) hx hb dL_law_1138 (by decide) ?_
                                      exact ih1090 ((-6), (v1090.2 - w1088)) h _ _ hW _ (lv_sub hl [2, 3, 4, 5, 6, 7, 8, 9, 10, 11, 12, 13, 0, 1, 14] rfl)
                          exact L1090 3000 (w1037, (w960.2.2.2.2.2.1 (t28).toNatClampNeg)) h _ _ hW _ (lv_sub hl [1, 2, 3, 4, 5, 6, 7, 8, 9, 10, 11, 12, 13, 14, 0] rfl)
                        have J1063 : ∀ (w1063 : Unit), f_L_law_j1063 (lpN (f_L_law_l111 L xs) n111) v111 w960 t18 t26 t28 w1037 w1063 = some (1 : Int32) → ∀ (H : Heap) (locs : List Loc), WdG g Z s.heap H locs [wX5 g A 0 t18.2, [(A2 0, .inl (gI g, 48, .inl w960.2.2.1))], [(A3 0, .inl (gI g, 48, .inl w960.2.2.2.1))], [(A4 0, .inl (gI g, 48, .inl w960.2.2.2.2.1))], [(A5 0, .inl (gI g, 48, .inl w960.2.2.2.2.2.1))], [(A6 0, .inl (gI g, 32, .inl w960.2.2.2.2.2.2.1))], [(A7 0, .inl (gI g, 32, .inl w960.2.2.2.2.2.2.2.1))], [(A8 0, .inl (gI g, 10, .inl w960.2.2.2.2.2.2.2.2))]] → ∀ ls : Array Slot, lv_has ls 24 [(0, .ref b), (1, .ref (A 0)), (2, .ref (A2 0)), (3, .ref (A3 0)), (4, .ref (A4 0)), (5, .ref (A5 0)), (6, .ref (A6 0)), (7, .ref (A7 0)), (8, .ref (A8 0)), (9, .int v111.1), (16, .int t26), (17, .int t28), (18, .int w1037), (19, .int (w960.2.2.2.2.2.1 (t28).toNatClampNeg))] → W p l e R s m args below meth c H locs (kc + 7) (ks + 336) Q (F0 m 1063 ls []) := by
                          intro w1063 h H locs hW ls hl
                          unfold f_L_law_j1063 at h
                          refine lv_aload hx hb dL_law_1063 (lv_at hl 8 rfl) ?_
                          refine lv_iconst (v := 2) hx hb dL_law_1065 (by decide) ?_
                          refine lv_iload hx hb dL_law_1066 (lv_at hl 11 rfl) ?_
                          refine lv_bipush (v := 16) hx hb dL_law_1068 (by decide) ?_
                          have g59 : ¬ (16 : Int32) = 0 := by decide
                          refine lv_idiv hx hb dL_law_1070 g59 ?_
                          refine lv_iadd hx hb dL_law_1071 ?_
                          obtain ⟨g60, h⟩ := q_g h
                          refine r_iald C hW 7 0 rfl rfl g60 dL_law_1072 ?_
                          refine lv_iconst (v := 2) hx hb dL_law_1073 (by decide) ?_
                          have g61 : ¬ (2 : Int32) = 0 := by decide
                          refine lv_idiv hx hb dL_law_1074 g61 ?_
                          refine lv_goto (tgt := 1088) hx hb dL_law_1075 (by decide) ?_
                          exact J1088 ((w960.2.2.2.2.2.2.2.2 (2 + (t28 / 16)).toNatClampNeg) / 2) h _ _ hW _ (lv_sub hl [0, 1, 2, 3, 4, 5, 6, 7, 8, 9, 10, 11, 12, 13] rfl)
                        refine lv_if_eq (tgt := 1063) hx hb dL_law_1051 (by decide) (fun e62 => ?_) (fun e62 => ?_)
                        · replace h := q_t e62 h
                          exact J1063 () h _ _ hW _ (lv_sub hl [2, 3, 4, 5, 6, 7, 8, 9, 10, 11, 12, 13, 1, 0] rfl)
                        · replace h := q_f e62 h
                          refine lv_aload hx hb dL_law_1054 (lv_at hl 6 rfl) ?_
                          refine lv_iload hx hb dL_law_1056 (lv_at hl 13 rfl) ?_
                          obtain ⟨g63, h⟩ := q_g h
                          refine r_iald C hW 3 0 rfl rfl g63 dL_law_1058 ?_
                          refine lv_iconst (v := 1) hx hb dL_law_1059 (by decide) ?_
                          refine lv_icmp_ne (tgt := 1078) hx hb dL_law_1060 (by decide) (fun e64 => ?_) (fun e64 => ?_)
                          · replace h := q_f e64 h
                            refine lv_aload hx hb dL_law_1078 (lv_at hl 10 rfl) ?_
                            refine lv_iconst (v := 2) hx hb dL_law_1080 (by decide) ?_
                            refine lv_iload hx hb dL_law_1081 (lv_at hl 13 rfl) ?_
                            refine lv_bipush (v := 16) hx hb dL_law_1083 (by decide) ?_
                            have g65 : ¬ (16 : Int32) = 0 := by decide
                            refine lv_idiv hx hb dL_law_1085 g65 ?_
                            refine lv_iadd hx hb dL_law_1086 ?_
                            obtain ⟨g66, h⟩ := q_g h
                            refine r_iald C hW 7 0 rfl rfl g66 dL_law_1087 ?_
                            exact J1088 (w960.2.2.2.2.2.2.2.2 (2 + (t28 / 16)).toNatClampNeg) h _ _ hW _ (lv_sub hl [2, 3, 4, 5, 6, 7, 8, 9, 10, 11, 12, 13, 1, 0] rfl)
                          · replace h := q_t e64 h
                            exact J1063 () h _ _ hW _ (lv_sub hl [2, 3, 4, 5, 6, 7, 8, 9, 10, 11, 12, 13, 1, 0] rfl)
                      refine lv_if_ge (tgt := 1036) hx hb dL_law_1028 (by decide) (fun e67 => ?_) (fun e67 => ?_)
                      · replace h := q_t e67 h
                        refine lv_iconst (v := 0) hx hb dL_law_1036 (by decide) ?_
                        exact J1037 0 h _ _ hW _ (lv_sub hl [2, 3, 4, 5, 6, 7, 8, 9, 10, 11, 1, 0] rfl)
                      · replace h := q_f e67 h
                        refine lv_bipush (v := (-6)) hx hb dL_law_1031 (by decide) ?_
                        refine lv_goto (tgt := 1037) hx hb dL_law_1033 (by decide) ?_
                        exact J1037 (-6) h _ _ hW _ (lv_sub hl [2, 3, 4, 5, 6, 7, 8, 9, 10, 11, 1, 0] rfl)
                    · replace h := q_f e25 h
                      refine lv_iconst (v := 0) hx hb dL_law_1001 (by decide) ?_
                      exact absurd h (by decide)
              refine lv_icmp_ge (tgt := 305) hx hb dL_law_174 (by decide) (fun e68 => ?_) (fun e68 => ?_)
              · replace h := q_t e68 h
                refine lv_iload hx hb dL_law_305 (lv_at hl 4 rfl) ?_
                refine lv_bipush (v := 9) hx hb dL_law_307 (by decide) ?_
                refine lv_icmp_ge (tgt := 398) hx hb dL_law_309 (by decide) (fun e69 => ?_) (fun e69 => ?_)
                · replace h := q_t e69 h
                  refine lv_iload hx hb dL_law_398 (lv_at hl 4 rfl) ?_
                  refine lv_bipush (v := 12) hx hb dL_law_400 (by decide) ?_
                  refine lv_icmp_ge (tgt := 487) hx hb dL_law_402 (by decide) (fun e70 => ?_) (fun e70 => ?_)
                  · replace h := q_t e70 h
                    refine lv_iload hx hb dL_law_487 (lv_at hl 4 rfl) ?_
                    refine lv_bipush (v := 12) hx hb dL_law_489 (by decide) ?_
                    have J575 : ∀ (w575 : Unit), f_L_law_j575 L xs (lpN (f_L_law_l111 L xs) n111) v111 t9 t11 t13 t15 w575 = some (1 : Int32) → ∀ (H : Heap) (locs : List Loc), WdG g Z s.heap H locs [wX5 g A 0 v111.2.1, [(A2 0, .inl (gI g, 48, .inl v111.2.2.1))], [(A3 0, .inl (gI g, 48, .inl v111.2.2.2.1))], [(A4 0, .inl (gI g, 48, .inl v111.2.2.2.2.1))], [(A5 0, .inl (gI g, 48, .inl v111.2.2.2.2.2.1))], [(A6 0, .inl (gI g, 32, .inl v111.2.2.2.2.2.2.1))], [(A7 0, .inl (gI g, 32, .inl v111.2.2.2.2.2.2.2.1))], [(A8 0, .inl (gI g, 10, .inl v111.2.2.2.2.2.2.2.2))]] → ∀ ls : Array Slot, lv_has ls 24 [(0, .ref b), (1, .ref (A 0)), (2, .ref (A2 0)), (3, .ref (A3 0)), (4, .ref (A4 0)), (5, .ref (A5 0)), (6, .ref (A6 0)), (7, .ref (A7 0)), (8, .ref (A8 0)), (9, .int v111.1), (10, .int t9), (11, .int t11), (12, .int t13), (13, .int t15)] → W p l e R s m args below meth c H locs kc ks Q (F0 m 575 ls []) := by
                      intro w575 h H locs hW ls hl
                      unfold f_L_law_j575 at h
                      refine lv_iload hx hb dL_law_575 (lv_at hl 11 rfl) ?_
                      refine lv_bipush (v := 13) hx hb dL_law_577 (by decide) ?_
                      refine lv_icmp_ne (tgt := 650) hx hb dL_law_579 (by decide) (fun e71 => ?_) (fun e71 => ?_)
                      · replace h := q_f e71 h
                        refine lv_iload hx hb dL_law_650 (lv_at hl 11 rfl) ?_
                        refine lv_bipush (v := 14) hx hb dL_law_652 (by decide) ?_
                        refine lv_icmp_ne (tgt := 706) hx hb dL_law_654 (by decide) (fun e72 => ?_) (fun e72 => ?_)
                        · replace h := q_f e72 h
                          refine lv_iload hx hb dL_law_706 (lv_at hl 11 rfl) ?_
                          refine lv_bipush (v := 15) hx hb dL_law_708 (by decide) ?_
                          refine lv_icmp_ne (tgt := 795) hx hb dL_law_710 (by decide) (fun e73 => ?_) (fun e73 => ?_)
                          · replace h := q_f e73 h
                            refine lv_iload hx hb dL_law_795 (lv_at hl 11 rfl) ?_
                            refine lv_bipush (v := 18) hx hb dL_law_797 (by decide) ?_
                            refine lv_icmp_ge (tgt := 873) hx hb dL_law_799 (by decide) (fun e74 => ?_) (fun e74 => ?_)
                            · replace h := q_t e74 h
                              refine lv_iconst (v := 1) hx hb dL_law_873 (by decide) ?_
                              refine lv_iload hx hb dL_law_874 (lv_at hl 10 rfl) ?_
                              refine lv_bipush (v := 11) hx hb dL_law_876 (by decide) ?_
                              refine lv_ishr hx hb dL_law_878 ?_
                              refine lv_iload hx hb dL_law_879 (lv_at hl 10 rfl) ?_
                              refine lv_bipush (v := 25) hx hb dL_law_881 (by decide) ?_
                              refine lv_ishr hx hb dL_law_883 ?_
                              refine lv_iconst (v := 3) hx hb dL_law_884 (by decide) ?_
                              obtain ⟨t75, h76, h⟩ := q_b h
                              refine r_cSi C hW (nA := 2) (As := [.int (t9 >>> ((25 : Int32) &&& 31)), .int 3]) (rest := [.int (t9 >>> ((11 : Int32) &&& 31)), .int 1]) (c_L_low l g (t9 >>> ((25 : Int32) &&& 31)) 3 _ h76) gL_law_L_low rfl wo_L_low (rmk hR rfl rfl) rfl rfl hl.1 (Nat.le_of_ble_eq_true rfl) ⟨by rw [hz.1]; omega, by rw [hz.2]; omega⟩ dL_law_885 (n := 8) (is := []) (rs := [0, 1, 2, 3, 4, 5, 6, 7]) (bs' := [wX5 g A 0 v111.2.1, [(A2 0, .inl (gI g, 48, .inl v111.2.2.1))], [(A3 0, .inl (gI g, 48, .inl v111.2.2.2.1))], [(A4 0, .inl (gI g, 48, .inl v111.2.2.2.2.1))], [(A5 0, .inl (gI g, 48, .inl v111.2.2.2.2.2.1))], [(A6 0, .inl (gI g, 32, .inl v111.2.2.2.2.2.2.1))], [(A7 0, .inl (gI g, 32, .inl v111.2.2.2.2.2.2.2.1))], [(A8 0, .inl (gI g, 10, .inl v111.2.2.2.2.2.2.2.2))]]) rfl rfl pm_5c3e962e rfl rfl rfl (fun H locs hW => ?_)
                              have J897 : ∀ (w897 : Int32), f_L_law_j897 L xs (lpN (f_L_law_l111 L xs) n111) v111 t9 w897 = some (1 : Int32) → ∀ (H : Heap) (locs : List Loc), WdG g Z s.heap H locs [wX5 g A 0 v111.2.1, [(A2 0, .inl (gI g, 48, .inl v111.2.2.1))], [(A3 0, .inl (gI g, 48, .inl v111.2.2.2.1))], [(A4 0, .inl (gI g, 48, .inl v111.2.2.2.2.1))], [(A5 0, .inl (gI g, 48, .inl v111.2.2.2.2.2.1))], [(A6 0, .inl (gI g, 32, .inl v111.2.2.2.2.2.2.1))], [(A7 0, .inl (gI g, 32, .inl v111.2.2.2.2.2.2.2.1))], [(A8 0, .inl (gI g, 10, .inl v111.2.2.2.2.2.2.2.2))]] → ∀ ls : Array Slot, lv_has ls 24 [(0, .ref b), (1, .ref (A 0)), (2, .ref (A2 0)), (3, .ref (A3 0)), (4, .ref (A4 0)), (5, .ref (A5 0)), (6, .ref (A6 0)), (7, .ref (A7 0)), (8, .ref (A8 0)), (9, .int v111.1)] → W p l e R s m args below meth c H locs kc ks Q (F0 m 897 ls [.int w897, .int (t9 >>> ((11 : Int32) &&& 31)), .int 1]) := by
                                intro w897 h H locs hW ls hl
                                unfold f_L_law_j897 at h
                                obtain ⟨t77, h78, h⟩ := q_b h
                                refine r_cSi C hW (nA := 2) (As := [.int (t9 >>> ((11 : Int32) &&& 31)), .int w897]) (rest := [.int 1]) (c_L_low l g (t9 >>> ((11 : Int32) &&& 31)) w897 _ h78) gL_law_L_low rfl wo_L_low (rmk hR rfl rfl) rfl rfl hl.1 (Nat.le_of_ble_eq_true rfl) ⟨by rw [hz.1]; omega, by rw [hz.2]; omega⟩ dL_law_897 (n := 8) (is := []) (rs := [0, 1, 2, 3, 4, 5, 6, 7]) (bs' := [wX5 g A 0 v111.2.1, [(A2 0, .inl (gI g, 48, .inl v111.2.2.1))], [(A3 0, .inl (gI g, 48, .inl v111.2.2.2.1))], [(A4 0, .inl (gI g, 48, .inl v111.2.2.2.2.1))], [(A5 0, .inl (gI g, 48, .inl v111.2.2.2.2.2.1))], [(A6 0, .inl (gI g, 32, .inl v111.2.2.2.2.2.2.1))], [(A7 0, .inl (gI g, 32, .inl v111.2.2.2.2.2.2.2.1))], [(A8 0, .inl (gI g, 10, .inl v111.2.2.2.2.2.2.2.2))]]) rfl rfl pm_5c3e962e rfl rfl rfl (fun H locs hW => ?_)
                                refine lv_iadd hx hb dL_law_900 ?_
                                refine lv_istore (lv' := [(16, .int (1 + t77)), (0, .ref b), (1, .ref (A 0)), (2, .ref (A2 0)), (3, .ref (A3 0)), (4, .ref (A4 0)), (5, .ref (A5 0)), (6, .ref (A6 0)), (7, .ref (A7 0)), (8, .ref (A8 0)), (9, .int v111.1)]) hx hb dL_law_901 hl (by decide) rfl (fun ls hl => ?_)
                                refine lv_iconst (v := 0) hx hb dL_law_903 (by decide) ?_
                                refine lv_istore (lv' := [(17, .int 0), (16, .int (1 + t77)), (0, .ref b), (1, .ref (A 0)), (2, .ref (A2 0)), (3, .ref (A3 0)), (4, .ref (A4 0)), (5, .ref (A5 0)), (6, .ref (A6 0)), (7, .ref (A7 0)), (8, .ref (A8 0)), (9, .int v111.1)]) hx hb dL_law_904 hl (by decide) rfl (fun ls hl => ?_)
                                refine lv_iconst (v := 0) hx hb dL_law_906 (by decide) ?_
                                refine lv_istore (lv' := [(18, .int 0), (17, .int 0), (16, .int (1 + t77)), (0, .ref b), (1, .ref (A 0)), (2, .ref (A2 0)), (3, .ref (A3 0)), (4, .ref (A4 0)), (5, .ref (A5 0)), (6, .ref (A6 0)), (7, .ref (A7 0)), (8, .ref (A8 0)), (9, .int v111.1)]) hx hb dL_law_907 hl (by decide) rfl (fun ls hl => ?_)
                                have L909 : ∀ n909 : Nat, ∀ (v909 : Int32 × Int32 × TX5s × TV48s × TV48s × TV48s × TV48s × TV32s × TV32s × TV10s), lpN (f_L_law_l909 L xs (lpN (f_L_law_l111 L xs) n111) v111 t77) n909 v909 = some (1 : Int32) → ∀ (H : Heap) (locs : List Loc), WdG g Z s.heap H locs [wX5 g A 0 v909.2.2.1, [(A2 0, .inl (gI g, 48, .inl v909.2.2.2.1))], [(A3 0, .inl (gI g, 48, .inl v909.2.2.2.2.1))], [(A4 0, .inl (gI g, 48, .inl v909.2.2.2.2.2.1))], [(A5 0, .inl (gI g, 48, .inl v909.2.2.2.2.2.2.1))], [(A6 0, .inl (gI g, 32, .inl v909.2.2.2.2.2.2.2.1))], [(A7 0, .inl (gI g, 32, .inl v909.2.2.2.2.2.2.2.2.1))], [(A8 0, .inl (gI g, 10, .inl v909.2.2.2.2.2.2.2.2.2))]] → ∀ ls : Array Slot, lv_has ls 24 [(0, .ref b), (1, .ref (A 0)), (2, .ref (A2 0)), (3, .ref (A3 0)), (4, .ref (A4 0)), (5, .ref (A5 0)), (6, .ref (A6 0)), (7, .ref (A7 0)), (8, .ref (A8 0)), (9, .int v111.1), (16, .int (1 + t77)), (17, .int v909.1), (18, .int v909.2.1)] → W p l e R s m args below meth c H locs kc ks Q (F0 m 909 ls []) := by
                                  intro n909
                                  induction n909 with
                                  | zero => intro v909 h; exact absurd (show none = some (1 : Int32) from h) (fun h => by cases h)
                                  | succ n909 ih909 =>
                                    intro v909 h H locs hW ls hl
                                    replace h : f_L_law_l909 L xs (lpN (f_L_law_l111 L xs) n111) v111 t77 (lpN (f_L_law_l909 L xs (lpN (f_L_law_l111 L xs) n111) v111 t77) n909) v909 = some (1 : Int32) := h
                                    unfold f_L_law_l909 at h
                                    refine lv_iload hx hb dL_law_909 (lv_at hl 12 rfl) ?_
                                    refine lv_iload hx hb dL_law_911 (lv_at hl 10 rfl) ?_
                                    refine lv_icmp_ge (tgt := 942) hx hb dL_law_913 (by decide) (fun e79 => ?_) (fun e79 => ?_)
                                    · replace h := q_t e79 h
                                      refine lv_aload_n hx hb dL_law_942 rfl (lv_at hl 1 rfl) ?_
                                      refine lv_iload hx hb dL_law_943 (lv_at hl 10 rfl) ?_
                                      obtain ⟨t80, h81, h⟩ := q_b h
                                      refine r_cVi C hW (nA := 1) (As := [.int (1 + t77)]) (rest := []) (c_X5_pass l g A 0 v909.2.2.1 (1 + t77) _ _ h81) gL_law_X5_pass rfl ⟨rfl, wo_X5_pass⟩ (rmk hR rfl rfl) rfl rfl rfl rfl hl.1 (Nat.le_of_ble_eq_true rfl) ⟨by rw [hz.1]; omega, by rw [hz.2]; omega⟩ dL_law_945 (n := 8) (is := [0]) (rs := [1, 2, 3, 4, 5, 6, 7]) (bs' := [wX5 g A 0 t80.2, [(A2 0, .inl (gI g, 48, .inl v909.2.2.2.1))], [(A3 0, .inl (gI g, 48, .inl v909.2.2.2.2.1))], [(A4 0, .inl (gI g, 48, .inl v909.2.2.2.2.2.1))], [(A5 0, .inl (gI g, 48, .inl v909.2.2.2.2.2.2.1))], [(A6 0, .inl (gI g, 32, .inl v909.2.2.2.2.2.2.2.1))], [(A7 0, .inl (gI g, 32, .inl v909.2.2.2.2.2.2.2.2.1))], [(A8 0, .inl (gI g, 10, .inl v909.2.2.2.2.2.2.2.2.2))]]) rfl rfl pm_135268d1 (List.append_nil _) (List.append_nil _) rfl (fun H locs hW => ?_)
                                      refine lv_iload hx hb dL_law_948 (lv_at hl 11 rfl) ?_
                                      have J958 : ∀ (w958 : Int32), f_L_law_j958 L xs (lpN (f_L_law_l111 L xs) n111) v111 v909 t80 w958 = some (1 : Int32) → ∀ (H : Heap) (locs : List Loc), WdG g Z s.heap H locs [wX5 g A 0 t80.2, [(A2 0, .inl (gI g, 48, .inl v909.2.2.2.1))], [(A3 0, .inl (gI g, 48, .inl v909.2.2.2.2.1))], [(A4 0, .inl (gI g, 48, .inl v909.2.2.2.2.2.1))], [(A5 0, .inl (gI g, 48, .inl v909.2.2.2.2.2.2.1))], [(A6 0, .inl (gI g, 32, .inl v909.2.2.2.2.2.2.2.1))], [(A7 0, .inl (gI g, 32, .inl v909.2.2.2.2.2.2.2.2.1))], [(A8 0, .inl (gI g, 10, .inl v909.2.2.2.2.2.2.2.2.2))]] → ∀ ls : Array Slot, lv_has ls 24 [(0, .ref b), (1, .ref (A 0)), (2, .ref (A2 0)), (3, .ref (A3 0)), (4, .ref (A4 0)), (5, .ref (A5 0)), (6, .ref (A6 0)), (7, .ref (A7 0)), (8, .ref (A8 0)), (9, .int v111.1)] → W p l e R s m args below meth c H locs kc ks Q (F0 m 958 ls [.int w958]) := by
                                        intro w958 h H locs hW ls hl
                                        unfold f_L_law_j958 at h
                                        refine lv_istore (lv' := [(15, .int w958), (0, .ref b), (1, .ref (A 0)), (2, .ref (A2 0)), (3, .ref (A3 0)), (4, .ref (A4 0)), (5, .ref (A5 0)), (6, .ref (A6 0)), (7, .ref (A7 0)), (8, .ref (A8 0)), (9, .int v111.1)]) hx hb dL_law_958 hl (by decide) rfl (fun ls hl => ?_)
                                        exact J960 (w958, t80.2, v909.2.2.2.1, v909.2.2.2.2.1, v909.2.2.2.2.2.1, v909.2.2.2.2.2.2.1, v909.2.2.2.2.2.2.2.1, v909.2.2.2.2.2.2.2.2.1, v909.2.2.2.2.2.2.2.2.2) h _ _ hW _ (lv_sub hl [1, 2, 3, 4, 5, 6, 7, 8, 9, 10, 0] rfl)
                                      refine lv_icmp_ne (tgt := 957) hx hb dL_law_950 (by decide) (fun e82 => ?_) (fun e82 => ?_)
                                      · replace h := q_f e82 h
                                        refine lv_iconst (v := 0) hx hb dL_law_957 (by decide) ?_
                                        exact J958 0 h _ _ hW _ (lv_sub hl [0, 1, 2, 3, 4, 5, 6, 7, 8, 9] rfl)
                                      · replace h := q_t e82 h
                                        refine lv_iconst (v := 1) hx hb dL_law_953 (by decide) ?_
                                        refine lv_goto (tgt := 958) hx hb dL_law_954 (by decide) ?_
                                        exact J958 1 h _ _ hW _ (lv_sub hl [0, 1, 2, 3, 4, 5, 6, 7, 8, 9] rfl)
                                    · replace h := q_f e79 h
                                      refine lv_iload hx hb dL_law_916 (lv_at hl 11 rfl) ?_
                                      refine lv_aload_n hx hb dL_law_918 rfl (lv_at hl 2 rfl) ?_
                                      refine lv_aload_n hx hb dL_law_919 rfl (lv_at hl 3 rfl) ?_
                                      refine lv_aload hx hb dL_law_920 (lv_at hl 4 rfl) ?_
                                      refine lv_aload hx hb dL_law_922 (lv_at hl 5 rfl) ?_
                                      refine lv_aload hx hb dL_law_924 (lv_at hl 6 rfl) ?_
                                      refine lv_aload hx hb dL_law_926 (lv_at hl 7 rfl) ?_
                                      refine lv_aload hx hb dL_law_928 (lv_at hl 8 rfl) ?_
                                      obtain ⟨t83, h84, h⟩ := q_b h
                                      refine r_cSi C hW (nA := 7) (As := [.ref (A2 0), .ref (A3 0), .ref (A4 0), .ref (A5 0), .ref (A6 0), .ref (A7 0), .ref (A8 0)]) (rest := [.int v909.1]) (c_L_day l g A2 0 A3 0 A4 0 A5 0 A6 0 A7 0 A8 0 v909.2.2.2.1 v909.2.2.2.2.1 v909.2.2.2.2.2.1 v909.2.2.2.2.2.2.1 v909.2.2.2.2.2.2.2.1 v909.2.2.2.2.2.2.2.2.1 v909.2.2.2.2.2.2.2.2.2 _ _ _ _ _ _ _ _ h84) gL_law_L_day rfl wo_L_day (rmk hR rfl rfl) rfl rfl hl.1 (Nat.le_of_ble_eq_true rfl) ⟨by rw [hz.1]; omega, by rw [hz.2]; omega⟩ dL_law_930 (n := 8) (is := [1, 2, 3, 4, 5, 6, 7]) (rs := [0]) (bs' := [wX5 g A 0 v909.2.2.1, [(A2 0, .inl (gI g, 48, .inl t83.2.1))], [(A3 0, .inl (gI g, 48, .inl t83.2.2.1))], [(A4 0, .inl (gI g, 48, .inl t83.2.2.2.1))], [(A5 0, .inl (gI g, 48, .inl t83.2.2.2.2.1))], [(A6 0, .inl (gI g, 32, .inl t83.2.2.2.2.2.1))], [(A7 0, .inl (gI g, 32, .inl t83.2.2.2.2.2.2.1))], [(A8 0, .inl (gI g, 10, .inl t83.2.2.2.2.2.2.2))]]) rfl rfl pm_d474960e rfl rfl rfl (fun H locs hW => ?_)
                                      refine lv_iadd hx hb dL_law_933 ?_
                                      refine lv_istore (lv' := [(17, .int (v909.1 + t83.1)), (0, .ref b), (1, .ref (A 0)), (2, .ref (A2 0)), (3, .ref (A3 0)), (4, .ref (A4 0)), (5, .ref (A5 0)), (6, .ref (A6 0)), (7, .ref (A7 0)), (8, .ref (A8 0)), (9, .int v111.1), (16, .int (1 + t77)), (18, .int v909.2.1)]) hx hb dL_law_934 hl (by decide) rfl (fun ls hl => ?_)
                                      refine lv_iinc (v := (v909.2.1 + 1)) (lv' := [(18, .int (v909.2.1 + 1)), (17, .int (v909.1 + t83.1)), (0, .ref b), (1, .ref (A 0)), (2, .ref (A2 0)), (3, .ref (A3 0)), (4, .ref (A4 0)), (5, .ref (A5 0)), (6, .ref (A6 0)), (7, .ref (A7 0)), (8, .ref (A8 0)), (9, .int v111.1), (16, .int (1 + t77))]) hx hb dL_law_936 hl (k := 12) rfl rfl (by decide) rfl (fun ls hl => ?_)
                                      refine lv_goto (tgt := 909) hx hb dL_law_939 (by decide) ?_
                                      exact ih909 ((v909.1 + t83.1), (v909.2.1 + 1), v909.2.2.1, t83.2.1, t83.2.2.1, t83.2.2.2.1, t83.2.2.2.2.1, t83.2.2.2.2.2.1, t83.2.2.2.2.2.2.1, t83.2.2.2.2.2.2.2) h _ _ hW _ (lv_sub hl [2, 3, 4, 5, 6, 7, 8, 9, 10, 11, 12, 1, 0] rfl)
                                exact L909 3000 (0, 0, v111.2.1, v111.2.2.1, v111.2.2.2.1, v111.2.2.2.2.1, v111.2.2.2.2.2.1, v111.2.2.2.2.2.2.1, v111.2.2.2.2.2.2.2.1, v111.2.2.2.2.2.2.2.2) h _ _ hW _ (lv_sub hl [3, 4, 5, 6, 7, 8, 9, 10, 11, 12, 2, 1, 0] rfl)
                              refine lv_if_ne (tgt := 896) hx hb dL_law_888 (by decide) (fun e85 => ?_) (fun e85 => ?_)
                              · replace h := q_f e85 h
                                refine lv_iconst (v := 4) hx hb dL_law_896 (by decide) ?_
                                exact J897 4 h _ _ hW _ (lv_sub hl [0, 1, 2, 3, 4, 5, 6, 7, 8, 9] rfl)
                              · replace h := q_t e85 h
                                refine lv_bipush (v := 12) hx hb dL_law_891 (by decide) ?_
                                refine lv_goto (tgt := 897) hx hb dL_law_893 (by decide) ?_
                                exact J897 12 h _ _ hW _ (lv_sub hl [0, 1, 2, 3, 4, 5, 6, 7, 8, 9] rfl)
                            · replace h := q_f e74 h
                              refine lv_iload hx hb dL_law_802 (lv_at hl 10 rfl) ?_
                              refine lv_bipush (v := 11) hx hb dL_law_804 (by decide) ?_
                              refine lv_ishr hx hb dL_law_806 ?_
                              refine lv_bipush (v := 16) hx hb dL_law_807 (by decide) ?_
                              obtain ⟨t86, h87, h⟩ := q_b h
                              refine r_cSi C hW (nA := 2) (As := [.int (t9 >>> ((11 : Int32) &&& 31)), .int 16]) (rest := []) (c_L_low l g (t9 >>> ((11 : Int32) &&& 31)) 16 _ h87) gL_law_L_low rfl wo_L_low (rmk hR rfl rfl) rfl rfl hl.1 (Nat.le_of_ble_eq_true rfl) ⟨by rw [hz.1]; omega, by rw [hz.2]; omega⟩ dL_law_809 (n := 8) (is := []) (rs := [0, 1, 2, 3, 4, 5, 6, 7]) (bs' := [wX5 g A 0 v111.2.1, [(A2 0, .inl (gI g, 48, .inl v111.2.2.1))], [(A3 0, .inl (gI g, 48, .inl v111.2.2.2.1))], [(A4 0, .inl (gI g, 48, .inl v111.2.2.2.2.1))], [(A5 0, .inl (gI g, 48, .inl v111.2.2.2.2.2.1))], [(A6 0, .inl (gI g, 32, .inl v111.2.2.2.2.2.2.1))], [(A7 0, .inl (gI g, 32, .inl v111.2.2.2.2.2.2.2.1))], [(A8 0, .inl (gI g, 10, .inl v111.2.2.2.2.2.2.2.2))]]) rfl rfl pm_5c3e962e rfl rfl rfl (fun H locs hW => ?_)
                              refine lv_istore (lv' := [(16, .int t86), (0, .ref b), (1, .ref (A 0)), (2, .ref (A2 0)), (3, .ref (A3 0)), (4, .ref (A4 0)), (5, .ref (A5 0)), (6, .ref (A6 0)), (7, .ref (A7 0)), (8, .ref (A8 0)), (9, .int v111.1), (10, .int t9), (11, .int t11), (12, .int t13), (13, .int t15)]) hx hb dL_law_812 hl (by decide) rfl (fun ls hl => ?_)
                              refine lv_aload hx hb dL_law_814 (lv_at hl 9 rfl) ?_
                              refine lv_iconst (v := 5) hx hb dL_law_816 (by decide) ?_
                              obtain ⟨g88, h⟩ := q_g h
                              refine r_iald C hW 7 0 rfl rfl g88 dL_law_817 ?_
                              have J826 : ∀ (w826 : Int32), f_L_law_j826 L xs (lpN (f_L_law_l111 L xs) n111) v111 t15 t86 w826 = some (1 : Int32) → ∀ (H : Heap) (locs : List Loc), WdG g Z s.heap H locs [wX5 g A 0 v111.2.1, [(A2 0, .inl (gI g, 48, .inl v111.2.2.1))], [(A3 0, .inl (gI g, 48, .inl v111.2.2.2.1))], [(A4 0, .inl (gI g, 48, .inl v111.2.2.2.2.1))], [(A5 0, .inl (gI g, 48, .inl v111.2.2.2.2.2.1))], [(A6 0, .inl (gI g, 32, .inl v111.2.2.2.2.2.2.1))], [(A7 0, .inl (gI g, 32, .inl v111.2.2.2.2.2.2.2.1))], [(A8 0, .inl (gI g, 10, .inl v111.2.2.2.2.2.2.2.2))]] → ∀ ls : Array Slot, lv_has ls 24 [(0, .ref b), (1, .ref (A 0)), (2, .ref (A2 0)), (3, .ref (A3 0)), (4, .ref (A4 0)), (5, .ref (A5 0)), (6, .ref (A6 0)), (7, .ref (A7 0)), (8, .ref (A8 0)), (9, .int v111.1), (13, .int t15), (16, .int t86)] → W p l e R s m args below meth c H locs kc ks Q (F0 m 826 ls [.int w826]) := by
                                intro w826 h H locs hW ls hl
                                unfold f_L_law_j826 at h
                                refine lv_istore (lv' := [(17, .int w826), (0, .ref b), (1, .ref (A 0)), (2, .ref (A2 0)), (3, .ref (A3 0)), (4, .ref (A4 0)), (5, .ref (A5 0)), (6, .ref (A6 0)), (7, .ref (A7 0)), (8, .ref (A8 0)), (9, .int v111.1), (13, .int t15), (16, .int t86)]) hx hb dL_law_826 hl (by decide) rfl (fun ls hl => ?_)
                                refine lv_aload_n hx hb dL_law_828 rfl (lv_at hl 2 rfl) ?_
                                refine lv_iload hx hb dL_law_829 (lv_at hl 11 rfl) ?_
                                refine lv_iload hx hb dL_law_831 (lv_at hl 12 rfl) ?_
                                obtain ⟨t89, h90, h⟩ := q_b h
                                refine r_cVi C hW (nA := 2) (As := [.int t15, .int t86]) (rest := []) (c_X5_night l g A 0 v111.2.1 t15 t86 _ _ h90) gL_law_X5_night rfl ⟨rfl, wo_X5_night⟩ (rmk hR rfl rfl) rfl rfl rfl rfl hl.1 (Nat.le_of_ble_eq_true rfl) ⟨by rw [hz.1]; omega, by rw [hz.2]; omega⟩ dL_law_833 (n := 8) (is := [0]) (rs := [1, 2, 3, 4, 5, 6, 7]) (bs' := [wX5 g A 0 t89.2, [(A2 0, .inl (gI g, 48, .inl v111.2.2.1))], [(A3 0, .inl (gI g, 48, .inl v111.2.2.2.1))], [(A4 0, .inl (gI g, 48, .inl v111.2.2.2.2.1))], [(A5 0, .inl (gI g, 48, .inl v111.2.2.2.2.2.1))], [(A6 0, .inl (gI g, 32, .inl v111.2.2.2.2.2.2.1))], [(A7 0, .inl (gI g, 32, .inl v111.2.2.2.2.2.2.2.1))], [(A8 0, .inl (gI g, 10, .inl v111.2.2.2.2.2.2.2.2))]]) rfl rfl pm_135268d1 (List.append_nil _) (List.append_nil _) rfl (fun H locs hW => ?_)
                                refine lv_iload hx hb dL_law_836 (lv_at hl 0 rfl) ?_
                                have J860 : ∀ (w860 : Int32 × TX5s × TV48s × TV48s × TV48s × TV48s × TV32s × TV32s × TV10s), f_L_law_j860 L xs (lpN (f_L_law_l111 L xs) n111) v111 t89 w860 = some (1 : Int32) → ∀ (H : Heap) (locs : List Loc), WdG g Z s.heap H locs [wX5 g A 0 w860.2.1, [(A2 0, .inl (gI g, 48, .inl w860.2.2.1))], [(A3 0, .inl (gI g, 48, .inl w860.2.2.2.1))], [(A4 0, .inl (gI g, 48, .inl w860.2.2.2.2.1))], [(A5 0, .inl (gI g, 48, .inl w860.2.2.2.2.2.1))], [(A6 0, .inl (gI g, 32, .inl w860.2.2.2.2.2.2.1))], [(A7 0, .inl (gI g, 32, .inl w860.2.2.2.2.2.2.2.1))], [(A8 0, .inl (gI g, 10, .inl w860.2.2.2.2.2.2.2.2))]] → ∀ ls : Array Slot, lv_has ls 24 [(0, .ref b), (1, .ref (A 0)), (2, .ref (A2 0)), (3, .ref (A3 0)), (4, .ref (A4 0)), (5, .ref (A5 0)), (6, .ref (A6 0)), (7, .ref (A7 0)), (8, .ref (A8 0)), (9, .int v111.1)] → W p l e R s m args below meth c H locs kc ks Q (F0 m 860 ls [.int w860.1, .int t89.1]) := by
                                  intro w860 h H locs hW ls hl
                                  unfold f_L_law_j860 at h
                                  have J868 : ∀ (w868 : Int32), f_L_law_j868 L xs (lpN (f_L_law_l111 L xs) n111) v111 w860 w868 = some (1 : Int32) → ∀ (H : Heap) (locs : List Loc), WdG g Z s.heap H locs [wX5 g A 0 w860.2.1, [(A2 0, .inl (gI g, 48, .inl w860.2.2.1))], [(A3 0, .inl (gI g, 48, .inl w860.2.2.2.1))], [(A4 0, .inl (gI g, 48, .inl w860.2.2.2.2.1))], [(A5 0, .inl (gI g, 48, .inl w860.2.2.2.2.2.1))], [(A6 0, .inl (gI g, 32, .inl w860.2.2.2.2.2.2.1))], [(A7 0, .inl (gI g, 32, .inl w860.2.2.2.2.2.2.2.1))], [(A8 0, .inl (gI g, 10, .inl w860.2.2.2.2.2.2.2.2))]] → ∀ ls : Array Slot, lv_has ls 24 [(0, .ref b), (1, .ref (A 0)), (2, .ref (A2 0)), (3, .ref (A3 0)), (4, .ref (A4 0)), (5, .ref (A5 0)), (6, .ref (A6 0)), (7, .ref (A7 0)), (8, .ref (A8 0)), (9, .int v111.1)] → W p l e R s m args below meth c H locs kc ks Q (F0 m 868 ls [.int w868]) := by
                                    intro w868 h H locs hW ls hl
                                    unfold f_L_law_j868 at h
                                    refine lv_istore (lv' := [(15, .int w868), (0, .ref b), (1, .ref (A 0)), (2, .ref (A2 0)), (3, .ref (A3 0)), (4, .ref (A4 0)), (5, .ref (A5 0)), (6, .ref (A6 0)), (7, .ref (A7 0)), (8, .ref (A8 0)), (9, .int v111.1)]) hx hb dL_law_868 hl (by decide) rfl (fun ls hl => ?_)
                                    refine lv_goto (tgt := 960) hx hb dL_law_870 (by decide) ?_
                                    exact J960 (w868, w860.2.1, w860.2.2.1, w860.2.2.2.1, w860.2.2.2.2.1, w860.2.2.2.2.2.1, w860.2.2.2.2.2.2.1, w860.2.2.2.2.2.2.2.1, w860.2.2.2.2.2.2.2.2) h _ _ hW _ (lv_sub hl [1, 2, 3, 4, 5, 6, 7, 8, 9, 10, 0] rfl)
                                  refine lv_icmp_ne (tgt := 867) hx hb dL_law_860 (by decide) (fun e91 => ?_) (fun e91 => ?_)
                                  · replace h := q_f e91 h
                                    refine lv_iconst (v := 0) hx hb dL_law_867 (by decide) ?_
                                    exact J868 0 h _ _ hW _ (lv_sub hl [0, 1, 2, 3, 4, 5, 6, 7, 8, 9] rfl)
                                  · replace h := q_t e91 h
                                    refine lv_iconst (v := 1) hx hb dL_law_863 (by decide) ?_
                                    refine lv_goto (tgt := 868) hx hb dL_law_864 (by decide) ?_
                                    exact J868 1 h _ _ hW _ (lv_sub hl [0, 1, 2, 3, 4, 5, 6, 7, 8, 9] rfl)
                                refine lv_if_eq (tgt := 858) hx hb dL_law_838 (by decide) (fun e92 => ?_) (fun e92 => ?_)
                                · replace h := q_t e92 h
                                  refine lv_bipush (v := (-3)) hx hb dL_law_858 (by decide) ?_
                                  exact J860 ((-3), t89.2, v111.2.2.1, v111.2.2.2.1, v111.2.2.2.2.1, v111.2.2.2.2.2.1, v111.2.2.2.2.2.2.1, v111.2.2.2.2.2.2.2.1, v111.2.2.2.2.2.2.2.2) h _ _ hW _ (lv_sub hl [1, 2, 3, 4, 5, 6, 7, 8, 9, 10] rfl)
                                · replace h := q_f e92 h
                                  refine lv_aload_n hx hb dL_law_841 rfl (lv_at hl 4 rfl) ?_
                                  refine lv_aload hx hb dL_law_842 (lv_at hl 6 rfl) ?_
                                  refine lv_aload hx hb dL_law_844 (lv_at hl 8 rfl) ?_
                                  refine lv_aload hx hb dL_law_846 (lv_at hl 9 rfl) ?_
                                  refine lv_iload hx hb dL_law_848 (lv_at hl 11 rfl) ?_
                                  refine lv_iload hx hb dL_law_850 (lv_at hl 12 rfl) ?_
                                  obtain ⟨t93, h94, h⟩ := q_b h
                                  refine r_cSi C hW (nA := 6) (As := [.ref (A3 0), .ref (A5 0), .ref (A7 0), .ref (A8 0), .int t15, .int t86]) (rest := [.int t89.1]) (c_L_night l g A3 0 A5 0 A7 0 A8 0 v111.2.2.2.1 v111.2.2.2.2.2.1 v111.2.2.2.2.2.2.2.1 v111.2.2.2.2.2.2.2.2 t15 t86 _ _ _ _ _ h94) gL_law_L_night rfl wo_L_night (rmk hR rfl rfl) rfl rfl hl.1 (Nat.le_of_ble_eq_true rfl) ⟨by rw [hz.1]; omega, by rw [hz.2]; omega⟩ dL_law_852 (n := 8) (is := [2, 4, 6, 7]) (rs := [0, 1, 3, 5]) (bs' := [wX5 g A 0 t89.2, [(A2 0, .inl (gI g, 48, .inl v111.2.2.1))], [(A3 0, .inl (gI g, 48, .inl t93.2.1))], [(A4 0, .inl (gI g, 48, .inl v111.2.2.2.2.1))], [(A5 0, .inl (gI g, 48, .inl t93.2.2.1))], [(A6 0, .inl (gI g, 32, .inl v111.2.2.2.2.2.2.1))], [(A7 0, .inl (gI g, 32, .inl t93.2.2.2.1))], [(A8 0, .inl (gI g, 10, .inl t93.2.2.2.2))]]) rfl rfl pm_b1a69803 rfl rfl rfl (fun H locs hW => ?_)
                                  refine lv_goto (tgt := 860) hx hb dL_law_855 (by decide) ?_
                                  exact J860 (t93.1, t89.2, v111.2.2.1, t93.2.1, v111.2.2.2.2.1, t93.2.2.1, v111.2.2.2.2.2.2.1, t93.2.2.2.1, t93.2.2.2.2) h _ _ hW _ (lv_sub hl [1, 2, 3, 4, 5, 6, 7, 8, 9, 10] rfl)
                              refine lv_if_le (tgt := 825) hx hb dL_law_818 (by decide) (fun e95 => ?_) (fun e95 => ?_)
                              · replace h := q_t e95 h
                                refine lv_iconst (v := 0) hx hb dL_law_825 (by decide) ?_
                                exact J826 0 h _ _ hW _ (lv_sub hl [1, 2, 3, 4, 5, 6, 7, 8, 9, 10, 14, 0] rfl)
                              · replace h := q_f e95 h
                                refine lv_iconst (v := 1) hx hb dL_law_821 (by decide) ?_
                                refine lv_goto (tgt := 826) hx hb dL_law_822 (by decide) ?_
                                exact J826 1 h _ _ hW _ (lv_sub hl [1, 2, 3, 4, 5, 6, 7, 8, 9, 10, 14, 0] rfl)
                          · replace h := q_t e73 h
                            refine lv_iconst (v := 1) hx hb dL_law_713 (by decide) ?_
                            refine lv_iload hx hb dL_law_714 (lv_at hl 10 rfl) ?_
                            refine lv_bipush (v := 11) hx hb dL_law_716 (by decide) ?_
                            refine lv_ishr hx hb dL_law_718 ?_
                            refine lv_bipush (v := 99) hx hb dL_law_719 (by decide) ?_
                            obtain ⟨t96, h97, h⟩ := q_b h
                            refine r_cSi C hW (nA := 2) (As := [.int (t9 >>> ((11 : Int32) &&& 31)), .int 99]) (rest := [.int 1]) (c_L_low l g (t9 >>> ((11 : Int32) &&& 31)) 99 _ h97) gL_law_L_low rfl wo_L_low (rmk hR rfl rfl) rfl rfl hl.1 (Nat.le_of_ble_eq_true rfl) ⟨by rw [hz.1]; omega, by rw [hz.2]; omega⟩ dL_law_721 (n := 8) (is := []) (rs := [0, 1, 2, 3, 4, 5, 6, 7]) (bs' := [wX5 g A 0 v111.2.1, [(A2 0, .inl (gI g, 48, .inl v111.2.2.1))], [(A3 0, .inl (gI g, 48, .inl v111.2.2.2.1))], [(A4 0, .inl (gI g, 48, .inl v111.2.2.2.2.1))], [(A5 0, .inl (gI g, 48, .inl v111.2.2.2.2.2.1))], [(A6 0, .inl (gI g, 32, .inl v111.2.2.2.2.2.2.1))], [(A7 0, .inl (gI g, 32, .inl v111.2.2.2.2.2.2.2.1))], [(A8 0, .inl (gI g, 10, .inl v111.2.2.2.2.2.2.2.2))]]) rfl rfl pm_5c3e962e rfl rfl rfl (fun H locs hW => ?_)
                            refine lv_iadd hx hb dL_law_724 ?_
                            refine lv_istore (lv' := [(16, .int (1 + t96)), (0, .ref b), (1, .ref (A 0)), (2, .ref (A2 0)), (3, .ref (A3 0)), (4, .ref (A4 0)), (5, .ref (A5 0)), (6, .ref (A6 0)), (7, .ref (A7 0)), (8, .ref (A8 0)), (9, .int v111.1), (10, .int t9), (11, .int t11), (12, .int t13), (13, .int t15)]) hx hb dL_law_725 hl (by decide) rfl (fun ls hl => ?_)
                            refine lv_aload_n hx hb dL_law_727 rfl (lv_at hl 2 rfl) ?_
                            refine lv_iload hx hb dL_law_728 (lv_at hl 0 rfl) ?_
                            obtain ⟨t98, h99, h⟩ := q_b h
                            refine r_cVi C hW (nA := 1) (As := [.int (1 + t96)]) (rest := []) (c_X5_bring l g A 0 v111.2.1 (1 + t96) _ _ h99) gL_law_X5_bring rfl ⟨rfl, wo_X5_bring⟩ (rmk hR rfl rfl) rfl rfl rfl rfl hl.1 (Nat.le_of_ble_eq_true rfl) ⟨by rw [hz.1]; omega, by rw [hz.2]; omega⟩ dL_law_730 (n := 8) (is := [0]) (rs := [1, 2, 3, 4, 5, 6, 7]) (bs' := [wX5 g A 0 t98.2, [(A2 0, .inl (gI g, 48, .inl v111.2.2.1))], [(A3 0, .inl (gI g, 48, .inl v111.2.2.2.1))], [(A4 0, .inl (gI g, 48, .inl v111.2.2.2.2.1))], [(A5 0, .inl (gI g, 48, .inl v111.2.2.2.2.2.1))], [(A6 0, .inl (gI g, 32, .inl v111.2.2.2.2.2.2.1))], [(A7 0, .inl (gI g, 32, .inl v111.2.2.2.2.2.2.2.1))], [(A8 0, .inl (gI g, 10, .inl v111.2.2.2.2.2.2.2.2))]]) rfl rfl pm_135268d1 (List.append_nil _) (List.append_nil _) rfl (fun H locs hW => ?_)
                            refine lv_aload hx hb dL_law_733 (lv_at hl 9 rfl) ?_
                            refine lv_iconst (v := 5) hx hb dL_law_735 (by decide) ?_
                            obtain ⟨g100, h⟩ := q_g h
                            refine r_iald C hW 7 0 rfl rfl g100 dL_law_736 ?_
                            refine lv_iload hx hb dL_law_737 (lv_at hl 0 rfl) ?_
                            refine lv_iadd hx hb dL_law_739 ?_
                            refine lv_bipush (v := 99) hx hb dL_law_740 (by decide) ?_
                            have J757 : ∀ (w757 : Int32), f_L_law_j757 L xs (lpN (f_L_law_l111 L xs) n111) v111 t96 t98 w757 = some (1 : Int32) → ∀ (H : Heap) (locs : List Loc), WdG g Z s.heap H locs [wX5 g A 0 t98.2, [(A2 0, .inl (gI g, 48, .inl v111.2.2.1))], [(A3 0, .inl (gI g, 48, .inl v111.2.2.2.1))], [(A4 0, .inl (gI g, 48, .inl v111.2.2.2.2.1))], [(A5 0, .inl (gI g, 48, .inl v111.2.2.2.2.2.1))], [(A6 0, .inl (gI g, 32, .inl v111.2.2.2.2.2.2.1))], [(A7 0, .inl (gI g, 32, .inl v111.2.2.2.2.2.2.2.1))], [(A8 0, .inl (gI g, 10, .inl v111.2.2.2.2.2.2.2.2))]] → ∀ ls : Array Slot, lv_has ls 24 [(0, .ref b), (1, .ref (A 0)), (2, .ref (A2 0)), (3, .ref (A3 0)), (4, .ref (A4 0)), (5, .ref (A5 0)), (6, .ref (A6 0)), (7, .ref (A7 0)), (8, .ref (A8 0)), (9, .int v111.1), (16, .int (1 + t96))] → W p l e R s m args below meth c H locs kc ks Q (F0 m 757 ls [.int w757, .int t98.1]) := by
                              intro w757 h H locs hW ls hl
                              unfold f_L_law_j757 at h
                              have J765 : ∀ (w765 : Int32), f_L_law_j765 L xs (lpN (f_L_law_l111 L xs) n111) v111 t96 t98 w765 = some (1 : Int32) → ∀ (H : Heap) (locs : List Loc), WdG g Z s.heap H locs [wX5 g A 0 t98.2, [(A2 0, .inl (gI g, 48, .inl v111.2.2.1))], [(A3 0, .inl (gI g, 48, .inl v111.2.2.2.1))], [(A4 0, .inl (gI g, 48, .inl v111.2.2.2.2.1))], [(A5 0, .inl (gI g, 48, .inl v111.2.2.2.2.2.1))], [(A6 0, .inl (gI g, 32, .inl v111.2.2.2.2.2.2.1))], [(A7 0, .inl (gI g, 32, .inl v111.2.2.2.2.2.2.2.1))], [(A8 0, .inl (gI g, 10, .inl v111.2.2.2.2.2.2.2.2))]] → ∀ ls : Array Slot, lv_has ls 24 [(0, .ref b), (1, .ref (A 0)), (2, .ref (A2 0)), (3, .ref (A3 0)), (4, .ref (A4 0)), (5, .ref (A5 0)), (6, .ref (A6 0)), (7, .ref (A7 0)), (8, .ref (A8 0)), (9, .int v111.1), (16, .int (1 + t96))] → W p l e R s m args below meth c H locs kc ks Q (F0 m 765 ls [.int w765]) := by
                                intro w765 h H locs hW ls hl
                                unfold f_L_law_j765 at h
                                refine lv_istore (lv' := [(15, .int w765), (0, .ref b), (1, .ref (A 0)), (2, .ref (A2 0)), (3, .ref (A3 0)), (4, .ref (A4 0)), (5, .ref (A5 0)), (6, .ref (A6 0)), (7, .ref (A7 0)), (8, .ref (A8 0)), (9, .int v111.1), (16, .int (1 + t96))]) hx hb dL_law_765 hl (by decide) rfl (fun ls hl => ?_)
                                refine lv_aload hx hb dL_law_767 (lv_at hl 9 rfl) ?_
                                refine lv_iconst (v := 5) hx hb dL_law_769 (by decide) ?_
                                refine lv_dup2_11 hx hb dL_law_770 rfl rfl ?_
                                obtain ⟨g101, h⟩ := q_g h
                                refine r_iald C hW 7 0 rfl rfl g101 dL_law_771 ?_
                                refine lv_aload hx hb dL_law_772 (lv_at hl 9 rfl) ?_
                                refine lv_iconst (v := 5) hx hb dL_law_774 (by decide) ?_
                                obtain ⟨g102, h⟩ := q_g h
                                refine r_iald C hW 7 0 rfl rfl g102 dL_law_775 ?_
                                refine lv_iload hx hb dL_law_776 (lv_at hl 11 rfl) ?_
                                refine lv_iadd hx hb dL_law_778 ?_
                                refine lv_bipush (v := 99) hx hb dL_law_779 (by decide) ?_
                                have J790 : ∀ (w790 : Int32), f_L_law_j790 L xs (lpN (f_L_law_l111 L xs) n111) v111 t98 w765 w790 = some (1 : Int32) → ∀ (H : Heap) (locs : List Loc), WdG g Z s.heap H locs [wX5 g A 0 t98.2, [(A2 0, .inl (gI g, 48, .inl v111.2.2.1))], [(A3 0, .inl (gI g, 48, .inl v111.2.2.2.1))], [(A4 0, .inl (gI g, 48, .inl v111.2.2.2.2.1))], [(A5 0, .inl (gI g, 48, .inl v111.2.2.2.2.2.1))], [(A6 0, .inl (gI g, 32, .inl v111.2.2.2.2.2.2.1))], [(A7 0, .inl (gI g, 32, .inl v111.2.2.2.2.2.2.2.1))], [(A8 0, .inl (gI g, 10, .inl v111.2.2.2.2.2.2.2.2))]] → ∀ ls : Array Slot, lv_has ls 24 [(0, .ref b), (1, .ref (A 0)), (2, .ref (A2 0)), (3, .ref (A3 0)), (4, .ref (A4 0)), (5, .ref (A5 0)), (6, .ref (A6 0)), (7, .ref (A7 0)), (8, .ref (A8 0)), (9, .int v111.1), (15, .int w765)] → W p l e R s m args below meth c H locs kc ks Q (F0 m 790 ls [.int w790, .int (v111.2.2.2.2.2.2.2.2 (5 : Int32).toNatClampNeg), .int 5, .ref (A8 0)]) := by
                                  intro w790 h H locs hW ls hl
                                  unfold f_L_law_j790 at h
                                  refine lv_iadd hx hb dL_law_790 ?_
                                  obtain ⟨g103, h⟩ := q_g h
                                  refine r_iast C hW (bs' := [wX5 g A 0 t98.2, [(A2 0, .inl (gI g, 48, .inl v111.2.2.1))], [(A3 0, .inl (gI g, 48, .inl v111.2.2.2.1))], [(A4 0, .inl (gI g, 48, .inl v111.2.2.2.2.1))], [(A5 0, .inl (gI g, 48, .inl v111.2.2.2.2.2.1))], [(A6 0, .inl (gI g, 32, .inl v111.2.2.2.2.2.2.1))], [(A7 0, .inl (gI g, 32, .inl v111.2.2.2.2.2.2.2.1))], [(A8 0, .inl (gI g, 10, .inl (upd v111.2.2.2.2.2.2.2.2 (5 : Int32).toNatClampNeg ((v111.2.2.2.2.2.2.2.2 (5 : Int32).toNatClampNeg) + w790))))]]) 7 0 rfl rfl g103 dL_law_791 rfl (fun H locs hW => ?_)
                                  refine lv_goto (tgt := 960) hx hb dL_law_792 (by decide) ?_
                                  exact J960 (w765, t98.2, v111.2.2.1, v111.2.2.2.1, v111.2.2.2.2.1, v111.2.2.2.2.2.1, v111.2.2.2.2.2.2.1, v111.2.2.2.2.2.2.2.1, (upd v111.2.2.2.2.2.2.2.2 (5 : Int32).toNatClampNeg ((v111.2.2.2.2.2.2.2.2 (5 : Int32).toNatClampNeg) + w790))) h _ _ hW _ (lv_sub hl [0, 1, 2, 3, 4, 5, 6, 7, 8, 9, 10] rfl)
                                refine lv_icmp_le (tgt := 788) hx hb dL_law_781 (by decide) (fun e104 => ?_) (fun e104 => ?_)
                                · replace h := q_t e104 h
                                  refine lv_iload hx hb dL_law_788 (lv_at hl 11 rfl) ?_
                                  exact J790 (1 + t96) h _ _ hW _ (lv_sub hl [1, 2, 3, 4, 5, 6, 7, 8, 9, 10, 0] rfl)
                                · replace h := q_f e104 h
                                  refine lv_iconst (v := 0) hx hb dL_law_784 (by decide) ?_
                                  refine lv_goto (tgt := 790) hx hb dL_law_785 (by decide) ?_
                                  exact J790 0 h _ _ hW _ (lv_sub hl [1, 2, 3, 4, 5, 6, 7, 8, 9, 10, 0] rfl)
                              refine lv_icmp_ne (tgt := 764) hx hb dL_law_757 (by decide) (fun e105 => ?_) (fun e105 => ?_)
                              · replace h := q_f e105 h
                                refine lv_iconst (v := 0) hx hb dL_law_764 (by decide) ?_
                                exact J765 0 h _ _ hW _ (lv_sub hl [0, 1, 2, 3, 4, 5, 6, 7, 8, 9, 10] rfl)
                              · replace h := q_t e105 h
                                refine lv_iconst (v := 1) hx hb dL_law_760 (by decide) ?_
                                refine lv_goto (tgt := 765) hx hb dL_law_761 (by decide) ?_
                                exact J765 1 h _ _ hW _ (lv_sub hl [0, 1, 2, 3, 4, 5, 6, 7, 8, 9, 10] rfl)
                            refine lv_icmp_le (tgt := 750) hx hb dL_law_742 (by decide) (fun e106 => ?_) (fun e106 => ?_)
                            · replace h := q_t e106 h
                              refine lv_aload hx hb dL_law_750 (lv_at hl 9 rfl) ?_
                              refine lv_iconst (v := 5) hx hb dL_law_752 (by decide) ?_
                              obtain ⟨g107, h⟩ := q_g h
                              refine r_iald C hW 7 0 rfl rfl g107 dL_law_753 ?_
                              refine lv_iload hx hb dL_law_754 (lv_at hl 0 rfl) ?_
                              refine lv_iadd hx hb dL_law_756 ?_
                              exact J757 ((v111.2.2.2.2.2.2.2.2 (5 : Int32).toNatClampNeg) + (1 + t96)) h _ _ hW _ (lv_sub hl [1, 2, 3, 4, 5, 6, 7, 8, 9, 10, 0] rfl)
                            · replace h := q_f e106 h
                              refine lv_bipush (v := (-4)) hx hb dL_law_745 (by decide) ?_
                              refine lv_goto (tgt := 757) hx hb dL_law_747 (by decide) ?_
                              exact J757 (-4) h _ _ hW _ (lv_sub hl [1, 2, 3, 4, 5, 6, 7, 8, 9, 10, 0] rfl)
                        · replace h := q_t e72 h
                          refine lv_iload hx hb dL_law_657 (lv_at hl 10 rfl) ?_
                          refine lv_bipush (v := 11) hx hb dL_law_659 (by decide) ?_
                          refine lv_ishr hx hb dL_law_661 ?_
                          refine lv_bipush (v := 21) hx hb dL_law_662 (by decide) ?_
                          obtain ⟨t108, h109, h⟩ := q_b h
                          refine r_cSi C hW (nA := 2) (As := [.int (t9 >>> ((11 : Int32) &&& 31)), .int 21]) (rest := []) (c_L_low l g (t9 >>> ((11 : Int32) &&& 31)) 21 _ h109) gL_law_L_low rfl wo_L_low (rmk hR rfl rfl) rfl rfl hl.1 (Nat.le_of_ble_eq_true rfl) ⟨by rw [hz.1]; omega, by rw [hz.2]; omega⟩ dL_law_664 (n := 8) (is := []) (rs := [0, 1, 2, 3, 4, 5, 6, 7]) (bs' := [wX5 g A 0 v111.2.1, [(A2 0, .inl (gI g, 48, .inl v111.2.2.1))], [(A3 0, .inl (gI g, 48, .inl v111.2.2.2.1))], [(A4 0, .inl (gI g, 48, .inl v111.2.2.2.2.1))], [(A5 0, .inl (gI g, 48, .inl v111.2.2.2.2.2.1))], [(A6 0, .inl (gI g, 32, .inl v111.2.2.2.2.2.2.1))], [(A7 0, .inl (gI g, 32, .inl v111.2.2.2.2.2.2.2.1))], [(A8 0, .inl (gI g, 10, .inl v111.2.2.2.2.2.2.2.2))]]) rfl rfl pm_5c3e962e rfl rfl rfl (fun H locs hW => ?_)
                          refine lv_istore (lv' := [(16, .int t108), (0, .ref b), (1, .ref (A 0)), (2, .ref (A2 0)), (3, .ref (A3 0)), (4, .ref (A4 0)), (5, .ref (A5 0)), (6, .ref (A6 0)), (7, .ref (A7 0)), (8, .ref (A8 0)), (9, .int v111.1), (10, .int t9), (11, .int t11), (12, .int t13), (13, .int t15)]) hx hb dL_law_667 hl (by decide) rfl (fun ls hl => ?_)
                          refine lv_aload_n hx hb dL_law_669 rfl (lv_at hl 2 rfl) ?_
                          refine lv_iload hx hb dL_law_670 (lv_at hl 13 rfl) ?_
                          refine lv_iload hx hb dL_law_672 (lv_at hl 0 rfl) ?_
                          obtain ⟨t110, h111, h⟩ := q_b h
                          refine r_cVi C hW (nA := 2) (As := [.int t13, .int t108]) (rest := []) (c_X5_traffic l g A 0 v111.2.1 t13 t108 _ _ h111) gL_law_X5_traffic rfl ⟨rfl, wo_X5_traffic⟩ (rmk hR rfl rfl) rfl rfl rfl rfl hl.1 (Nat.le_of_ble_eq_true rfl) ⟨by rw [hz.1]; omega, by rw [hz.2]; omega⟩ dL_law_674 (n := 8) (is := [0]) (rs := [1, 2, 3, 4, 5, 6, 7]) (bs' := [wX5 g A 0 t110.2, [(A2 0, .inl (gI g, 48, .inl v111.2.2.1))], [(A3 0, .inl (gI g, 48, .inl v111.2.2.2.1))], [(A4 0, .inl (gI g, 48, .inl v111.2.2.2.2.1))], [(A5 0, .inl (gI g, 48, .inl v111.2.2.2.2.2.1))], [(A6 0, .inl (gI g, 32, .inl v111.2.2.2.2.2.2.1))], [(A7 0, .inl (gI g, 32, .inl v111.2.2.2.2.2.2.2.1))], [(A8 0, .inl (gI g, 10, .inl v111.2.2.2.2.2.2.2.2))]]) rfl rfl pm_135268d1 (List.append_nil _) (List.append_nil _) rfl (fun H locs hW => ?_)
                          refine lv_aload hx hb dL_law_677 (lv_at hl 9 rfl) ?_
                          refine lv_iconst (v := 2) hx hb dL_law_679 (by decide) ?_
                          refine lv_iload hx hb dL_law_680 (lv_at hl 13 rfl) ?_
                          refine lv_iadd hx hb dL_law_682 ?_
                          obtain ⟨g112, h⟩ := q_g h
                          refine r_iald C hW 7 0 rfl rfl g112 dL_law_683 ?_
                          have J692 : ∀ (w692 : Int32), f_L_law_j692 L xs (lpN (f_L_law_l111 L xs) n111) v111 t13 t108 t110 w692 = some (1 : Int32) → ∀ (H : Heap) (locs : List Loc), WdG g Z s.heap H locs [wX5 g A 0 t110.2, [(A2 0, .inl (gI g, 48, .inl v111.2.2.1))], [(A3 0, .inl (gI g, 48, .inl v111.2.2.2.1))], [(A4 0, .inl (gI g, 48, .inl v111.2.2.2.2.1))], [(A5 0, .inl (gI g, 48, .inl v111.2.2.2.2.2.1))], [(A6 0, .inl (gI g, 32, .inl v111.2.2.2.2.2.2.1))], [(A7 0, .inl (gI g, 32, .inl v111.2.2.2.2.2.2.2.1))], [(A8 0, .inl (gI g, 10, .inl v111.2.2.2.2.2.2.2.2))]] → ∀ ls : Array Slot, lv_has ls 24 [(0, .ref b), (1, .ref (A 0)), (2, .ref (A2 0)), (3, .ref (A3 0)), (4, .ref (A4 0)), (5, .ref (A5 0)), (6, .ref (A6 0)), (7, .ref (A7 0)), (8, .ref (A8 0)), (9, .int v111.1), (12, .int t13), (16, .int t108)] → W p l e R s m args below meth c H locs kc ks Q (F0 m 692 ls [.int w692]) := by
                            intro w692 h H locs hW ls hl
                            unfold f_L_law_j692 at h
                            refine lv_istore (lv' := [(15, .int w692), (0, .ref b), (1, .ref (A 0)), (2, .ref (A2 0)), (3, .ref (A3 0)), (4, .ref (A4 0)), (5, .ref (A5 0)), (6, .ref (A6 0)), (7, .ref (A7 0)), (8, .ref (A8 0)), (9, .int v111.1), (12, .int t13), (16, .int t108)]) hx hb dL_law_692 hl (by decide) rfl (fun ls hl => ?_)
                            refine lv_aload hx hb dL_law_694 (lv_at hl 9 rfl) ?_
                            refine lv_iconst (v := 2) hx hb dL_law_696 (by decide) ?_
                            refine lv_iload hx hb dL_law_697 (lv_at hl 11 rfl) ?_
                            refine lv_iadd hx hb dL_law_699 ?_
                            refine lv_iload hx hb dL_law_700 (lv_at hl 12 rfl) ?_
                            obtain ⟨g113, h⟩ := q_g h
                            refine r_iast C hW (bs' := [wX5 g A 0 t110.2, [(A2 0, .inl (gI g, 48, .inl v111.2.2.1))], [(A3 0, .inl (gI g, 48, .inl v111.2.2.2.1))], [(A4 0, .inl (gI g, 48, .inl v111.2.2.2.2.1))], [(A5 0, .inl (gI g, 48, .inl v111.2.2.2.2.2.1))], [(A6 0, .inl (gI g, 32, .inl v111.2.2.2.2.2.2.1))], [(A7 0, .inl (gI g, 32, .inl v111.2.2.2.2.2.2.2.1))], [(A8 0, .inl (gI g, 10, .inl (upd v111.2.2.2.2.2.2.2.2 (2 + t13).toNatClampNeg t108)))]]) 7 0 rfl rfl g113 dL_law_702 rfl (fun H locs hW => ?_)
                            refine lv_goto (tgt := 960) hx hb dL_law_703 (by decide) ?_
                            exact J960 (w692, t110.2, v111.2.2.1, v111.2.2.2.1, v111.2.2.2.2.1, v111.2.2.2.2.2.1, v111.2.2.2.2.2.2.1, v111.2.2.2.2.2.2.2.1, (upd v111.2.2.2.2.2.2.2.2 (2 + t13).toNatClampNeg t108)) h _ _ hW _ (lv_sub hl [1, 2, 3, 4, 5, 6, 7, 8, 9, 10, 0] rfl)
                          refine lv_icmp_ne (tgt := 691) hx hb dL_law_684 (by decide) (fun e114 => ?_) (fun e114 => ?_)
                          · replace h := q_f e114 h
                            refine lv_iconst (v := 0) hx hb dL_law_691 (by decide) ?_
                            exact J692 0 h _ _ hW _ (lv_sub hl [1, 2, 3, 4, 5, 6, 7, 8, 9, 10, 13, 0] rfl)
                          · replace h := q_t e114 h
                            refine lv_iconst (v := 1) hx hb dL_law_687 (by decide) ?_
                            refine lv_goto (tgt := 692) hx hb dL_law_688 (by decide) ?_
                            exact J692 1 h _ _ hW _ (lv_sub hl [1, 2, 3, 4, 5, 6, 7, 8, 9, 10, 13, 0] rfl)
                      · replace h := q_t e71 h
                        refine lv_iload hx hb dL_law_582 (lv_at hl 10 rfl) ?_
                        refine lv_bipush (v := 11) hx hb dL_law_584 (by decide) ?_
                        refine lv_ishr hx hb dL_law_586 ?_
                        refine lv_iconst (v := 2) hx hb dL_law_587 (by decide) ?_
                        obtain ⟨t115, h116, h⟩ := q_b h
                        refine r_cSi C hW (nA := 2) (As := [.int (t9 >>> ((11 : Int32) &&& 31)), .int 2]) (rest := []) (c_L_low l g (t9 >>> ((11 : Int32) &&& 31)) 2 _ h116) gL_law_L_low rfl wo_L_low (rmk hR rfl rfl) rfl rfl hl.1 (Nat.le_of_ble_eq_true rfl) ⟨by rw [hz.1]; omega, by rw [hz.2]; omega⟩ dL_law_588 (n := 8) (is := []) (rs := [0, 1, 2, 3, 4, 5, 6, 7]) (bs' := [wX5 g A 0 v111.2.1, [(A2 0, .inl (gI g, 48, .inl v111.2.2.1))], [(A3 0, .inl (gI g, 48, .inl v111.2.2.2.1))], [(A4 0, .inl (gI g, 48, .inl v111.2.2.2.2.1))], [(A5 0, .inl (gI g, 48, .inl v111.2.2.2.2.2.1))], [(A6 0, .inl (gI g, 32, .inl v111.2.2.2.2.2.2.1))], [(A7 0, .inl (gI g, 32, .inl v111.2.2.2.2.2.2.2.1))], [(A8 0, .inl (gI g, 10, .inl v111.2.2.2.2.2.2.2.2))]]) rfl rfl pm_5c3e962e rfl rfl rfl (fun H locs hW => ?_)
                        refine lv_istore (lv' := [(16, .int t115), (0, .ref b), (1, .ref (A 0)), (2, .ref (A2 0)), (3, .ref (A3 0)), (4, .ref (A4 0)), (5, .ref (A5 0)), (6, .ref (A6 0)), (7, .ref (A7 0)), (8, .ref (A8 0)), (9, .int v111.1), (10, .int t9), (11, .int t11), (12, .int t13), (13, .int t15)]) hx hb dL_law_591 hl (by decide) rfl (fun ls hl => ?_)
                        refine lv_iconst (v := 1) hx hb dL_law_593 (by decide) ?_
                        refine lv_iload hx hb dL_law_594 (lv_at hl 11 rfl) ?_
                        refine lv_bipush (v := 12) hx hb dL_law_596 (by decide) ?_
                        refine lv_ishr hx hb dL_law_598 ?_
                        refine lv_iload hx hb dL_law_599 (lv_at hl 0 rfl) ?_
                        have J611 : ∀ (w611 : Int32), f_L_law_j611 L xs (lpN (f_L_law_l111 L xs) n111) v111 t9 t115 w611 = some (1 : Int32) → ∀ (H : Heap) (locs : List Loc), WdG g Z s.heap H locs [wX5 g A 0 v111.2.1, [(A2 0, .inl (gI g, 48, .inl v111.2.2.1))], [(A3 0, .inl (gI g, 48, .inl v111.2.2.2.1))], [(A4 0, .inl (gI g, 48, .inl v111.2.2.2.2.1))], [(A5 0, .inl (gI g, 48, .inl v111.2.2.2.2.2.1))], [(A6 0, .inl (gI g, 32, .inl v111.2.2.2.2.2.2.1))], [(A7 0, .inl (gI g, 32, .inl v111.2.2.2.2.2.2.2.1))], [(A8 0, .inl (gI g, 10, .inl v111.2.2.2.2.2.2.2.2))]] → ∀ ls : Array Slot, lv_has ls 24 [(0, .ref b), (1, .ref (A 0)), (2, .ref (A2 0)), (3, .ref (A3 0)), (4, .ref (A4 0)), (5, .ref (A5 0)), (6, .ref (A6 0)), (7, .ref (A7 0)), (8, .ref (A8 0)), (9, .int v111.1), (16, .int t115)] → W p l e R s m args below meth c H locs kc ks Q (F0 m 611 ls [.int w611, .int (t9 >>> ((12 : Int32) &&& 31)), .int 1]) := by
                          intro w611 h H locs hW ls hl
                          unfold f_L_law_j611 at h
                          obtain ⟨t117, h118, h⟩ := q_b h
                          refine r_cSi C hW (nA := 2) (As := [.int (t9 >>> ((12 : Int32) &&& 31)), .int w611]) (rest := [.int 1]) (c_L_low l g (t9 >>> ((12 : Int32) &&& 31)) w611 _ h118) gL_law_L_low rfl wo_L_low (rmk hR rfl rfl) rfl rfl hl.1 (Nat.le_of_ble_eq_true rfl) ⟨by rw [hz.1]; omega, by rw [hz.2]; omega⟩ dL_law_611 (n := 8) (is := []) (rs := [0, 1, 2, 3, 4, 5, 6, 7]) (bs' := [wX5 g A 0 v111.2.1, [(A2 0, .inl (gI g, 48, .inl v111.2.2.1))], [(A3 0, .inl (gI g, 48, .inl v111.2.2.2.1))], [(A4 0, .inl (gI g, 48, .inl v111.2.2.2.2.1))], [(A5 0, .inl (gI g, 48, .inl v111.2.2.2.2.2.1))], [(A6 0, .inl (gI g, 32, .inl v111.2.2.2.2.2.2.1))], [(A7 0, .inl (gI g, 32, .inl v111.2.2.2.2.2.2.2.1))], [(A8 0, .inl (gI g, 10, .inl v111.2.2.2.2.2.2.2.2))]]) rfl rfl pm_5c3e962e rfl rfl rfl (fun H locs hW => ?_)
                          refine lv_iadd hx hb dL_law_614 ?_
                          refine lv_istore (lv' := [(17, .int (1 + t117)), (0, .ref b), (1, .ref (A 0)), (2, .ref (A2 0)), (3, .ref (A3 0)), (4, .ref (A4 0)), (5, .ref (A5 0)), (6, .ref (A6 0)), (7, .ref (A7 0)), (8, .ref (A8 0)), (9, .int v111.1), (16, .int t115)]) hx hb dL_law_615 hl (by decide) rfl (fun ls hl => ?_)
                          refine lv_aload_n hx hb dL_law_617 rfl (lv_at hl 2 rfl) ?_
                          refine lv_iload hx hb dL_law_618 (lv_at hl 11 rfl) ?_
                          refine lv_iload hx hb dL_law_620 (lv_at hl 0 rfl) ?_
                          obtain ⟨t119, h120, h⟩ := q_b h
                          refine r_cVi C hW (nA := 2) (As := [.int t115, .int (1 + t117)]) (rest := []) (c_X5_set l g A 0 v111.2.1 t115 (1 + t117) _ _ h120) gL_law_X5_set rfl ⟨rfl, wo_X5_set⟩ (rmk hR rfl rfl) rfl rfl rfl rfl hl.1 (Nat.le_of_ble_eq_true rfl) ⟨by rw [hz.1]; omega, by rw [hz.2]; omega⟩ dL_law_622 (n := 8) (is := [0]) (rs := [1, 2, 3, 4, 5, 6, 7]) (bs' := [wX5 g A 0 t119.2, [(A2 0, .inl (gI g, 48, .inl v111.2.2.1))], [(A3 0, .inl (gI g, 48, .inl v111.2.2.2.1))], [(A4 0, .inl (gI g, 48, .inl v111.2.2.2.2.1))], [(A5 0, .inl (gI g, 48, .inl v111.2.2.2.2.2.1))], [(A6 0, .inl (gI g, 32, .inl v111.2.2.2.2.2.2.1))], [(A7 0, .inl (gI g, 32, .inl v111.2.2.2.2.2.2.2.1))], [(A8 0, .inl (gI g, 10, .inl v111.2.2.2.2.2.2.2.2))]]) rfl rfl pm_135268d1 (List.append_nil _) (List.append_nil _) rfl (fun H locs hW => ?_)
                          refine lv_aload hx hb dL_law_625 (lv_at hl 9 rfl) ?_
                          refine lv_iload hx hb dL_law_627 (lv_at hl 11 rfl) ?_
                          obtain ⟨g121, h⟩ := q_g h
                          refine r_iald C hW 7 0 rfl rfl g121 dL_law_629 ?_
                          have J638 : ∀ (w638 : Int32), f_L_law_j638 L xs (lpN (f_L_law_l111 L xs) n111) v111 t115 t117 t119 w638 = some (1 : Int32) → ∀ (H : Heap) (locs : List Loc), WdG g Z s.heap H locs [wX5 g A 0 t119.2, [(A2 0, .inl (gI g, 48, .inl v111.2.2.1))], [(A3 0, .inl (gI g, 48, .inl v111.2.2.2.1))], [(A4 0, .inl (gI g, 48, .inl v111.2.2.2.2.1))], [(A5 0, .inl (gI g, 48, .inl v111.2.2.2.2.2.1))], [(A6 0, .inl (gI g, 32, .inl v111.2.2.2.2.2.2.1))], [(A7 0, .inl (gI g, 32, .inl v111.2.2.2.2.2.2.2.1))], [(A8 0, .inl (gI g, 10, .inl v111.2.2.2.2.2.2.2.2))]] → ∀ ls : Array Slot, lv_has ls 24 [(0, .ref b), (1, .ref (A 0)), (2, .ref (A2 0)), (3, .ref (A3 0)), (4, .ref (A4 0)), (5, .ref (A5 0)), (6, .ref (A6 0)), (7, .ref (A7 0)), (8, .ref (A8 0)), (9, .int v111.1), (16, .int t115), (17, .int (1 + t117))] → W p l e R s m args below meth c H locs kc ks Q (F0 m 638 ls [.int w638]) := by
                            intro w638 h H locs hW ls hl
                            unfold f_L_law_j638 at h
                            refine lv_istore (lv' := [(15, .int w638), (0, .ref b), (1, .ref (A 0)), (2, .ref (A2 0)), (3, .ref (A3 0)), (4, .ref (A4 0)), (5, .ref (A5 0)), (6, .ref (A6 0)), (7, .ref (A7 0)), (8, .ref (A8 0)), (9, .int v111.1), (16, .int t115), (17, .int (1 + t117))]) hx hb dL_law_638 hl (by decide) rfl (fun ls hl => ?_)
                            refine lv_aload hx hb dL_law_640 (lv_at hl 9 rfl) ?_
                            refine lv_iload hx hb dL_law_642 (lv_at hl 11 rfl) ?_
                            refine lv_iload hx hb dL_law_644 (lv_at hl 12 rfl) ?_
                            obtain ⟨g122, h⟩ := q_g h
                            refine r_iast C hW (bs' := [wX5 g A 0 t119.2, [(A2 0, .inl (gI g, 48, .inl v111.2.2.1))], [(A3 0, .inl (gI g, 48, .inl v111.2.2.2.1))], [(A4 0, .inl (gI g, 48, .inl v111.2.2.2.2.1))], [(A5 0, .inl (gI g, 48, .inl v111.2.2.2.2.2.1))], [(A6 0, .inl (gI g, 32, .inl v111.2.2.2.2.2.2.1))], [(A7 0, .inl (gI g, 32, .inl v111.2.2.2.2.2.2.2.1))], [(A8 0, .inl (gI g, 10, .inl (upd v111.2.2.2.2.2.2.2.2 (t115).toNatClampNeg (1 + t117))))]]) 7 0 rfl rfl g122 dL_law_646 rfl (fun H locs hW => ?_)
                            refine lv_goto (tgt := 960) hx hb dL_law_647 (by decide) ?_
                            exact J960 (w638, t119.2, v111.2.2.1, v111.2.2.2.1, v111.2.2.2.2.1, v111.2.2.2.2.2.1, v111.2.2.2.2.2.2.1, v111.2.2.2.2.2.2.2.1, (upd v111.2.2.2.2.2.2.2.2 (t115).toNatClampNeg (1 + t117))) h _ _ hW _ (lv_sub hl [1, 2, 3, 4, 5, 6, 7, 8, 9, 10, 0] rfl)
                          refine lv_icmp_ne (tgt := 637) hx hb dL_law_630 (by decide) (fun e123 => ?_) (fun e123 => ?_)
                          · replace h := q_f e123 h
                            refine lv_iconst (v := 0) hx hb dL_law_637 (by decide) ?_
                            exact J638 0 h _ _ hW _ (lv_sub hl [1, 2, 3, 4, 5, 6, 7, 8, 9, 10, 11, 0] rfl)
                          · replace h := q_t e123 h
                            refine lv_iconst (v := 1) hx hb dL_law_633 (by decide) ?_
                            refine lv_goto (tgt := 638) hx hb dL_law_634 (by decide) ?_
                            exact J638 1 h _ _ hW _ (lv_sub hl [1, 2, 3, 4, 5, 6, 7, 8, 9, 10, 11, 0] rfl)
                        refine lv_if_ne (tgt := 609) hx hb dL_law_601 (by decide) (fun e124 => ?_) (fun e124 => ?_)
                        · replace h := q_f e124 h
                          refine lv_bipush (v := 40) hx hb dL_law_609 (by decide) ?_
                          exact J611 40 h _ _ hW _ (lv_sub hl [1, 2, 3, 4, 5, 6, 7, 8, 9, 10, 0] rfl)
                        · replace h := q_t e124 h
                          refine lv_bipush (v := 100) hx hb dL_law_604 (by decide) ?_
                          refine lv_goto (tgt := 611) hx hb dL_law_606 (by decide) ?_
                          exact J611 100 h _ _ hW _ (lv_sub hl [1, 2, 3, 4, 5, 6, 7, 8, 9, 10, 0] rfl)
                    refine lv_icmp_ne (tgt := 575) hx hb dL_law_491 (by decide) (fun e125 => ?_) (fun e125 => ?_)
                    · replace h := q_f e125 h
                      exact J575 () h _ _ hW _ (lv_sub hl [6, 7, 8, 9, 10, 11, 12, 13, 14, 15, 5, 4, 3, 2] rfl)
                    · replace h := q_t e125 h
                      refine lv_iload hx hb dL_law_494 (lv_at hl 5 rfl) ?_
                      refine lv_bipush (v := 11) hx hb dL_law_496 (by decide) ?_
                      refine lv_ishr hx hb dL_law_498 ?_
                      refine lv_iconst (v := 2) hx hb dL_law_499 (by decide) ?_
                      obtain ⟨t126, h127, h⟩ := q_b h
                      refine r_cSi C hW (nA := 2) (As := [.int (t9 >>> ((11 : Int32) &&& 31)), .int 2]) (rest := []) (c_L_low l g (t9 >>> ((11 : Int32) &&& 31)) 2 _ h127) gL_law_L_low rfl wo_L_low (rmk hR rfl rfl) rfl rfl hl.1 (Nat.le_of_ble_eq_true rfl) ⟨by rw [hz.1]; omega, by rw [hz.2]; omega⟩ dL_law_500 (n := 8) (is := []) (rs := [0, 1, 2, 3, 4, 5, 6, 7]) (bs' := [wX5 g A 0 v111.2.1, [(A2 0, .inl (gI g, 48, .inl v111.2.2.1))], [(A3 0, .inl (gI g, 48, .inl v111.2.2.2.1))], [(A4 0, .inl (gI g, 48, .inl v111.2.2.2.2.1))], [(A5 0, .inl (gI g, 48, .inl v111.2.2.2.2.2.1))], [(A6 0, .inl (gI g, 32, .inl v111.2.2.2.2.2.2.1))], [(A7 0, .inl (gI g, 32, .inl v111.2.2.2.2.2.2.2.1))], [(A8 0, .inl (gI g, 10, .inl v111.2.2.2.2.2.2.2.2))]]) rfl rfl pm_5c3e962e rfl rfl rfl (fun H locs hW => ?_)
                      refine lv_if_ne (tgt := 575) hx hb dL_law_503 (by decide) (fun e128 => ?_) (fun e128 => ?_)
                      · replace h := q_f e128 h
                        exact J575 () h _ _ hW _ (lv_sub hl [6, 7, 8, 9, 10, 11, 12, 13, 14, 15, 5, 4, 3, 2] rfl)
                      · replace h := q_t e128 h
                        refine lv_aload_n hx hb dL_law_506 rfl (lv_at hl 7 rfl) ?_
                        refine lv_iload hx hb dL_law_507 (lv_at hl 3 rfl) ?_
                        refine lv_iload hx hb dL_law_509 (lv_at hl 2 rfl) ?_
                        obtain ⟨t129, h130, h⟩ := q_b h
                        refine r_cVi C hW (nA := 2) (As := [.int t13, .int t15]) (rest := []) (c_X5_erase l g A 0 v111.2.1 t13 t15 _ _ h130) gL_law_X5_erase rfl ⟨rfl, wo_X5_erase⟩ (rmk hR rfl rfl) rfl rfl rfl rfl hl.1 (Nat.le_of_ble_eq_true rfl) ⟨by rw [hz.1]; omega, by rw [hz.2]; omega⟩ dL_law_511 (n := 8) (is := [0]) (rs := [1, 2, 3, 4, 5, 6, 7]) (bs' := [wX5 g A 0 t129.2, [(A2 0, .inl (gI g, 48, .inl v111.2.2.1))], [(A3 0, .inl (gI g, 48, .inl v111.2.2.2.1))], [(A4 0, .inl (gI g, 48, .inl v111.2.2.2.2.1))], [(A5 0, .inl (gI g, 48, .inl v111.2.2.2.2.2.1))], [(A6 0, .inl (gI g, 32, .inl v111.2.2.2.2.2.2.1))], [(A7 0, .inl (gI g, 32, .inl v111.2.2.2.2.2.2.2.1))], [(A8 0, .inl (gI g, 10, .inl v111.2.2.2.2.2.2.2.2))]]) rfl rfl pm_135268d1 (List.append_nil _) (List.append_nil _) rfl (fun H locs hW => ?_)
                        refine lv_aload_n hx hb dL_law_514 rfl (lv_at hl 8 rfl) ?_
                        refine lv_iload hx hb dL_law_515 (lv_at hl 1 rfl) ?_
                        obtain ⟨g131, h⟩ := q_g h
                        refine r_iald C hW 1 0 rfl rfl g131 dL_law_517 ?_
                        have J526 : ∀ (w526 : Int32), f_L_law_j526 L xs (lpN (f_L_law_l111 L xs) n111) v111 t13 t15 t129 w526 = some (1 : Int32) → ∀ (H : Heap) (locs : List Loc), WdG g Z s.heap H locs [wX5 g A 0 t129.2, [(A2 0, .inl (gI g, 48, .inl v111.2.2.1))], [(A3 0, .inl (gI g, 48, .inl v111.2.2.2.1))], [(A4 0, .inl (gI g, 48, .inl v111.2.2.2.2.1))], [(A5 0, .inl (gI g, 48, .inl v111.2.2.2.2.2.1))], [(A6 0, .inl (gI g, 32, .inl v111.2.2.2.2.2.2.1))], [(A7 0, .inl (gI g, 32, .inl v111.2.2.2.2.2.2.2.1))], [(A8 0, .inl (gI g, 10, .inl v111.2.2.2.2.2.2.2.2))]] → ∀ ls : Array Slot, lv_has ls 24 [(0, .ref b), (1, .ref (A 0)), (2, .ref (A2 0)), (3, .ref (A3 0)), (4, .ref (A4 0)), (5, .ref (A5 0)), (6, .ref (A6 0)), (7, .ref (A7 0)), (8, .ref (A8 0)), (9, .int v111.1), (14, .int ((16 * t13) + t15))] → W p l e R s m args below meth c H locs kc ks Q (F0 m 526 ls [.int w526, .int t129.1]) := by
                          intro w526 h H locs hW ls hl
                          unfold f_L_law_j526 at h
                          refine lv_aload hx hb dL_law_526 (lv_at hl 4 rfl) ?_
                          refine lv_iload hx hb dL_law_528 (lv_at hl 10 rfl) ?_
                          obtain ⟨g132, h⟩ := q_g h
                          refine r_iald C hW 3 0 rfl rfl g132 dL_law_530 ?_
                          have J539 : ∀ (w539 : Int32), f_L_law_j539 L xs (lpN (f_L_law_l111 L xs) n111) v111 t13 t15 t129 w526 w539 = some (1 : Int32) → ∀ (H : Heap) (locs : List Loc), WdG g Z s.heap H locs [wX5 g A 0 t129.2, [(A2 0, .inl (gI g, 48, .inl v111.2.2.1))], [(A3 0, .inl (gI g, 48, .inl v111.2.2.2.1))], [(A4 0, .inl (gI g, 48, .inl v111.2.2.2.2.1))], [(A5 0, .inl (gI g, 48, .inl v111.2.2.2.2.2.1))], [(A6 0, .inl (gI g, 32, .inl v111.2.2.2.2.2.2.1))], [(A7 0, .inl (gI g, 32, .inl v111.2.2.2.2.2.2.2.1))], [(A8 0, .inl (gI g, 10, .inl v111.2.2.2.2.2.2.2.2))]] → ∀ ls : Array Slot, lv_has ls 24 [(0, .ref b), (1, .ref (A 0)), (2, .ref (A2 0)), (3, .ref (A3 0)), (4, .ref (A4 0)), (5, .ref (A5 0)), (6, .ref (A6 0)), (7, .ref (A7 0)), (8, .ref (A8 0)), (9, .int v111.1), (14, .int ((16 * t13) + t15))] → W p l e R s m args below meth c H locs kc ks Q (F0 m 539 ls [.int w539, .int w526, .int t129.1]) := by
                            intro w539 h H locs hW ls hl
                            unfold f_L_law_j539 at h
                            refine lv_iadd hx hb dL_law_539 ?_
                            have J548 : ∀ (w548 : Int32), f_L_law_j548 L xs (lpN (f_L_law_l111 L xs) n111) v111 t13 t15 t129 w548 = some (1 : Int32) → ∀ (H : Heap) (locs : List Loc), WdG g Z s.heap H locs [wX5 g A 0 t129.2, [(A2 0, .inl (gI g, 48, .inl v111.2.2.1))], [(A3 0, .inl (gI g, 48, .inl v111.2.2.2.1))], [(A4 0, .inl (gI g, 48, .inl v111.2.2.2.2.1))], [(A5 0, .inl (gI g, 48, .inl v111.2.2.2.2.2.1))], [(A6 0, .inl (gI g, 32, .inl v111.2.2.2.2.2.2.1))], [(A7 0, .inl (gI g, 32, .inl v111.2.2.2.2.2.2.2.1))], [(A8 0, .inl (gI g, 10, .inl v111.2.2.2.2.2.2.2.2))]] → ∀ ls : Array Slot, lv_has ls 24 [(0, .ref b), (1, .ref (A 0)), (2, .ref (A2 0)), (3, .ref (A3 0)), (4, .ref (A4 0)), (5, .ref (A5 0)), (6, .ref (A6 0)), (7, .ref (A7 0)), (8, .ref (A8 0)), (9, .int v111.1), (14, .int ((16 * t13) + t15))] → W p l e R s m args below meth c H locs kc ks Q (F0 m 548 ls [.int w548]) := by
                              intro w548 h H locs hW ls hl
                              unfold f_L_law_j548 at h
                              refine lv_istore (lv' := [(15, .int w548), (0, .ref b), (1, .ref (A 0)), (2, .ref (A2 0)), (3, .ref (A3 0)), (4, .ref (A4 0)), (5, .ref (A5 0)), (6, .ref (A6 0)), (7, .ref (A7 0)), (8, .ref (A8 0)), (9, .int v111.1), (14, .int ((16 * t13) + t15))]) hx hb dL_law_548 hl (by decide) rfl (fun ls hl => ?_)
                              refine lv_aload_n hx hb dL_law_550 rfl (lv_at hl 3 rfl) ?_
                              refine lv_iload hx hb dL_law_551 (lv_at hl 11 rfl) ?_
                              refine lv_iconst (v := (-1)) hx hb dL_law_553 (by decide) ?_
                              obtain ⟨g133, h⟩ := q_g h
                              refine r_iast C hW (bs' := [wX5 g A 0 t129.2, [(A2 0, .inl (gI g, 48, .inl (upd v111.2.2.1 ((16 * t13) + t15).toNatClampNeg (-1))))], [(A3 0, .inl (gI g, 48, .inl v111.2.2.2.1))], [(A4 0, .inl (gI g, 48, .inl v111.2.2.2.2.1))], [(A5 0, .inl (gI g, 48, .inl v111.2.2.2.2.2.1))], [(A6 0, .inl (gI g, 32, .inl v111.2.2.2.2.2.2.1))], [(A7 0, .inl (gI g, 32, .inl v111.2.2.2.2.2.2.2.1))], [(A8 0, .inl (gI g, 10, .inl v111.2.2.2.2.2.2.2.2))]]) 1 0 rfl rfl g133 dL_law_554 rfl (fun H locs hW => ?_)
                              refine lv_aload_n hx hb dL_law_555 rfl (lv_at hl 4 rfl) ?_
                              refine lv_iload hx hb dL_law_556 (lv_at hl 11 rfl) ?_
                              refine lv_iconst (v := 0) hx hb dL_law_558 (by decide) ?_
                              obtain ⟨g134, h⟩ := q_g h
                              refine r_iast C hW (bs' := [wX5 g A 0 t129.2, [(A2 0, .inl (gI g, 48, .inl (upd v111.2.2.1 ((16 * t13) + t15).toNatClampNeg (-1))))], [(A3 0, .inl (gI g, 48, .inl (upd v111.2.2.2.1 ((16 * t13) + t15).toNatClampNeg 0)))], [(A4 0, .inl (gI g, 48, .inl v111.2.2.2.2.1))], [(A5 0, .inl (gI g, 48, .inl v111.2.2.2.2.2.1))], [(A6 0, .inl (gI g, 32, .inl v111.2.2.2.2.2.2.1))], [(A7 0, .inl (gI g, 32, .inl v111.2.2.2.2.2.2.2.1))], [(A8 0, .inl (gI g, 10, .inl v111.2.2.2.2.2.2.2.2))]]) 2 0 rfl rfl g134 dL_law_559 rfl (fun H locs hW => ?_)
                              refine lv_aload hx hb dL_law_560 (lv_at hl 5 rfl) ?_
                              refine lv_iload hx hb dL_law_562 (lv_at hl 11 rfl) ?_
                              refine lv_iconst (v := (-1)) hx hb dL_law_564 (by decide) ?_
                              obtain ⟨g135, h⟩ := q_g h
                              refine r_iast C hW (bs' := [wX5 g A 0 t129.2, [(A2 0, .inl (gI g, 48, .inl (upd v111.2.2.1 ((16 * t13) + t15).toNatClampNeg (-1))))], [(A3 0, .inl (gI g, 48, .inl (upd v111.2.2.2.1 ((16 * t13) + t15).toNatClampNeg 0)))], [(A4 0, .inl (gI g, 48, .inl (upd v111.2.2.2.2.1 ((16 * t13) + t15).toNatClampNeg (-1))))], [(A5 0, .inl (gI g, 48, .inl v111.2.2.2.2.2.1))], [(A6 0, .inl (gI g, 32, .inl v111.2.2.2.2.2.2.1))], [(A7 0, .inl (gI g, 32, .inl v111.2.2.2.2.2.2.2.1))], [(A8 0, .inl (gI g, 10, .inl v111.2.2.2.2.2.2.2.2))]]) 3 0 rfl rfl g135 dL_law_565 rfl (fun H locs hW => ?_)
                              refine lv_aload hx hb dL_law_566 (lv_at hl 6 rfl) ?_
                              refine lv_iload hx hb dL_law_568 (lv_at hl 11 rfl) ?_
                              refine lv_iconst (v := 0) hx hb dL_law_570 (by decide) ?_
                              obtain ⟨g136, h⟩ := q_g h
                              refine r_iast C hW (bs' := [wX5 g A 0 t129.2, [(A2 0, .inl (gI g, 48, .inl (upd v111.2.2.1 ((16 * t13) + t15).toNatClampNeg (-1))))], [(A3 0, .inl (gI g, 48, .inl (upd v111.2.2.2.1 ((16 * t13) + t15).toNatClampNeg 0)))], [(A4 0, .inl (gI g, 48, .inl (upd v111.2.2.2.2.1 ((16 * t13) + t15).toNatClampNeg (-1))))], [(A5 0, .inl (gI g, 48, .inl (upd v111.2.2.2.2.2.1 ((16 * t13) + t15).toNatClampNeg 0)))], [(A6 0, .inl (gI g, 32, .inl v111.2.2.2.2.2.2.1))], [(A7 0, .inl (gI g, 32, .inl v111.2.2.2.2.2.2.2.1))], [(A8 0, .inl (gI g, 10, .inl v111.2.2.2.2.2.2.2.2))]]) 4 0 rfl rfl g136 dL_law_571 rfl (fun H locs hW => ?_)
                              refine lv_goto (tgt := 960) hx hb dL_law_572 (by decide) ?_
                              exact J960 (w548, t129.2, (upd v111.2.2.1 ((16 * t13) + t15).toNatClampNeg (-1)), (upd v111.2.2.2.1 ((16 * t13) + t15).toNatClampNeg 0), (upd v111.2.2.2.2.1 ((16 * t13) + t15).toNatClampNeg (-1)), (upd v111.2.2.2.2.2.1 ((16 * t13) + t15).toNatClampNeg 0), v111.2.2.2.2.2.2.1, v111.2.2.2.2.2.2.2.1, v111.2.2.2.2.2.2.2.2) h _ _ hW _ (lv_sub hl [1, 2, 3, 4, 5, 6, 7, 8, 9, 10, 0] rfl)
                            refine lv_icmp_ne (tgt := 547) hx hb dL_law_540 (by decide) (fun e137 => ?_) (fun e137 => ?_)
                            · replace h := q_f e137 h
                              refine lv_iconst (v := 0) hx hb dL_law_547 (by decide) ?_
                              exact J548 0 h _ _ hW _ (lv_sub hl [0, 1, 2, 3, 4, 5, 6, 7, 8, 9, 10] rfl)
                            · replace h := q_t e137 h
                              refine lv_iconst (v := 1) hx hb dL_law_543 (by decide) ?_
                              refine lv_goto (tgt := 548) hx hb dL_law_544 (by decide) ?_
                              exact J548 1 h _ _ hW _ (lv_sub hl [0, 1, 2, 3, 4, 5, 6, 7, 8, 9, 10] rfl)
                          refine lv_if_lt (tgt := 538) hx hb dL_law_531 (by decide) (fun e138 => ?_) (fun e138 => ?_)
                          · replace h := q_t e138 h
                            refine lv_iconst (v := 0) hx hb dL_law_538 (by decide) ?_
                            exact J539 0 h _ _ hW _ (lv_sub hl [0, 1, 2, 3, 4, 5, 6, 7, 8, 9, 10] rfl)
                          · replace h := q_f e138 h
                            refine lv_iconst (v := 1) hx hb dL_law_534 (by decide) ?_
                            refine lv_goto (tgt := 539) hx hb dL_law_535 (by decide) ?_
                            exact J539 1 h _ _ hW _ (lv_sub hl [0, 1, 2, 3, 4, 5, 6, 7, 8, 9, 10] rfl)
                        refine lv_if_lt (tgt := 525) hx hb dL_law_518 (by decide) (fun e139 => ?_) (fun e139 => ?_)
                        · replace h := q_t e139 h
                          refine lv_iconst (v := 0) hx hb dL_law_525 (by decide) ?_
                          exact J526 0 h _ _ hW _ (lv_sub hl [6, 7, 8, 9, 10, 11, 12, 13, 14, 15, 1] rfl)
                        · replace h := q_f e139 h
                          refine lv_iconst (v := 1) hx hb dL_law_521 (by decide) ?_
                          refine lv_goto (tgt := 526) hx hb dL_law_522 (by decide) ?_
                          exact J526 1 h _ _ hW _ (lv_sub hl [6, 7, 8, 9, 10, 11, 12, 13, 14, 15, 1] rfl)
                  · replace h := q_f e70 h
                    refine lv_bipush (v := 16) hx hb dL_law_405 (by decide) ?_
                    refine lv_iload hx hb dL_law_407 (lv_at hl 5 rfl) ?_
                    refine lv_bipush (v := 13) hx hb dL_law_409 (by decide) ?_
                    refine lv_ishr hx hb dL_law_411 ?_
                    refine lv_iconst (v := 2) hx hb dL_law_412 (by decide) ?_
                    obtain ⟨t140, h141, h⟩ := q_b h
                    refine r_cSi C hW (nA := 2) (As := [.int (t9 >>> ((13 : Int32) &&& 31)), .int 2]) (rest := [.int 16]) (c_L_low l g (t9 >>> ((13 : Int32) &&& 31)) 2 _ h141) gL_law_L_low rfl wo_L_low (rmk hR rfl rfl) rfl rfl hl.1 (Nat.le_of_ble_eq_true rfl) ⟨by rw [hz.1]; omega, by rw [hz.2]; omega⟩ dL_law_413 (n := 8) (is := []) (rs := [0, 1, 2, 3, 4, 5, 6, 7]) (bs' := [wX5 g A 0 v111.2.1, [(A2 0, .inl (gI g, 48, .inl v111.2.2.1))], [(A3 0, .inl (gI g, 48, .inl v111.2.2.2.1))], [(A4 0, .inl (gI g, 48, .inl v111.2.2.2.2.1))], [(A5 0, .inl (gI g, 48, .inl v111.2.2.2.2.2.1))], [(A6 0, .inl (gI g, 32, .inl v111.2.2.2.2.2.2.1))], [(A7 0, .inl (gI g, 32, .inl v111.2.2.2.2.2.2.2.1))], [(A8 0, .inl (gI g, 10, .inl v111.2.2.2.2.2.2.2.2))]]) rfl rfl pm_5c3e962e rfl rfl rfl (fun H locs hW => ?_)
                    refine lv_imul hx hb dL_law_416 ?_
                    refine lv_iload hx hb dL_law_417 (lv_at hl 2 rfl) ?_
                    refine lv_iadd hx hb dL_law_419 ?_
                    refine lv_istore (lv' := [(16, .int ((16 * t140) + t15)), (15, .int 1), (14, .int ((16 * t13) + t15)), (13, .int t15), (12, .int t13), (11, .int t11), (10, .int t9), (0, .ref b), (1, .ref (A 0)), (2, .ref (A2 0)), (3, .ref (A3 0)), (4, .ref (A4 0)), (5, .ref (A5 0)), (6, .ref (A6 0)), (7, .ref (A7 0)), (8, .ref (A8 0)), (9, .int v111.1)]) hx hb dL_law_420 hl (by decide) rfl (fun ls hl => ?_)
                    refine lv_iload hx hb dL_law_422 (lv_at hl 6 rfl) ?_
                    refine lv_bipush (v := 11) hx hb dL_law_424 (by decide) ?_
                    refine lv_ishr hx hb dL_law_426 ?_
                    refine lv_iconst (v := 4) hx hb dL_law_427 (by decide) ?_
                    obtain ⟨t142, h143, h⟩ := q_b h
                    refine r_cSi C hW (nA := 2) (As := [.int (t9 >>> ((11 : Int32) &&& 31)), .int 4]) (rest := []) (c_L_low l g (t9 >>> ((11 : Int32) &&& 31)) 4 _ h143) gL_law_L_low rfl wo_L_low (rmk hR rfl rfl) rfl rfl hl.1 (Nat.le_of_ble_eq_true rfl) ⟨by rw [hz.1]; omega, by rw [hz.2]; omega⟩ dL_law_428 (n := 8) (is := []) (rs := [0, 1, 2, 3, 4, 5, 6, 7]) (bs' := [wX5 g A 0 v111.2.1, [(A2 0, .inl (gI g, 48, .inl v111.2.2.1))], [(A3 0, .inl (gI g, 48, .inl v111.2.2.2.1))], [(A4 0, .inl (gI g, 48, .inl v111.2.2.2.2.1))], [(A5 0, .inl (gI g, 48, .inl v111.2.2.2.2.2.1))], [(A6 0, .inl (gI g, 32, .inl v111.2.2.2.2.2.2.1))], [(A7 0, .inl (gI g, 32, .inl v111.2.2.2.2.2.2.2.1))], [(A8 0, .inl (gI g, 10, .inl v111.2.2.2.2.2.2.2.2))]]) rfl rfl pm_5c3e962e rfl rfl rfl (fun H locs hW => ?_)
                    refine lv_istore (lv' := [(17, .int t142), (16, .int ((16 * t140) + t15)), (15, .int 1), (14, .int ((16 * t13) + t15)), (13, .int t15), (12, .int t13), (11, .int t11), (10, .int t9), (0, .ref b), (1, .ref (A 0)), (2, .ref (A2 0)), (3, .ref (A3 0)), (4, .ref (A4 0)), (5, .ref (A5 0)), (6, .ref (A6 0)), (7, .ref (A7 0)), (8, .ref (A8 0)), (9, .int v111.1)]) hx hb dL_law_431 hl (by decide) rfl (fun ls hl => ?_)
                    refine lv_aload_n hx hb dL_law_433 rfl (lv_at hl 9 rfl) ?_
                    refine lv_iload hx hb dL_law_434 (lv_at hl 1 rfl) ?_
                    refine lv_bipush (v := 16) hx hb dL_law_436 (by decide) ?_
                    have g144 : ¬ (16 : Int32) = 0 := by decide
                    refine lv_idiv hx hb dL_law_438 g144 ?_
                    refine lv_iload hx hb dL_law_439 (lv_at hl 4 rfl) ?_
                    refine lv_iload hx hb dL_law_441 (lv_at hl 0 rfl) ?_
                    obtain ⟨t145, h146, h⟩ := q_b h
                    refine r_cVi C hW (nA := 3) (As := [.int (((16 * t140) + t15) / 16), .int t15, .int t142]) (rest := []) (c_X5_dash l g A 0 v111.2.1 (((16 * t140) + t15) / 16) t15 t142 _ _ h146) gL_law_X5_dash rfl ⟨rfl, wo_X5_dash⟩ (rmk hR rfl rfl) rfl rfl rfl rfl hl.1 (Nat.le_of_ble_eq_true rfl) ⟨by rw [hz.1]; omega, by rw [hz.2]; omega⟩ dL_law_443 (n := 8) (is := [0]) (rs := [1, 2, 3, 4, 5, 6, 7]) (bs' := [wX5 g A 0 t145.2, [(A2 0, .inl (gI g, 48, .inl v111.2.2.1))], [(A3 0, .inl (gI g, 48, .inl v111.2.2.2.1))], [(A4 0, .inl (gI g, 48, .inl v111.2.2.2.2.1))], [(A5 0, .inl (gI g, 48, .inl v111.2.2.2.2.2.1))], [(A6 0, .inl (gI g, 32, .inl v111.2.2.2.2.2.2.1))], [(A7 0, .inl (gI g, 32, .inl v111.2.2.2.2.2.2.2.1))], [(A8 0, .inl (gI g, 10, .inl v111.2.2.2.2.2.2.2.2))]]) rfl rfl pm_135268d1 (List.append_nil _) (List.append_nil _) rfl (fun H locs hW => ?_)
                    refine lv_aload hx hb dL_law_446 (lv_at hl 14 rfl) ?_
                    refine lv_iload hx hb dL_law_448 (lv_at hl 1 rfl) ?_
                    obtain ⟨g147, h⟩ := q_g h
                    refine r_iald C hW 5 0 rfl rfl g147 dL_law_450 ?_
                    have J459 : ∀ (w459 : Int32), f_L_law_j459 L xs (lpN (f_L_law_l111 L xs) n111) v111 t15 t140 t142 t145 w459 = some (1 : Int32) → ∀ (H : Heap) (locs : List Loc), WdG g Z s.heap H locs [wX5 g A 0 t145.2, [(A2 0, .inl (gI g, 48, .inl v111.2.2.1))], [(A3 0, .inl (gI g, 48, .inl v111.2.2.2.1))], [(A4 0, .inl (gI g, 48, .inl v111.2.2.2.2.1))], [(A5 0, .inl (gI g, 48, .inl v111.2.2.2.2.2.1))], [(A6 0, .inl (gI g, 32, .inl v111.2.2.2.2.2.2.1))], [(A7 0, .inl (gI g, 32, .inl v111.2.2.2.2.2.2.2.1))], [(A8 0, .inl (gI g, 10, .inl v111.2.2.2.2.2.2.2.2))]] → ∀ ls : Array Slot, lv_has ls 24 [(0, .ref b), (1, .ref (A 0)), (2, .ref (A2 0)), (3, .ref (A3 0)), (4, .ref (A4 0)), (5, .ref (A5 0)), (6, .ref (A6 0)), (7, .ref (A7 0)), (8, .ref (A8 0)), (9, .int v111.1), (16, .int ((16 * t140) + t15)), (17, .int t142)] → W p l e R s m args below meth c H locs kc ks Q (F0 m 459 ls [.int w459]) := by
                      intro w459 h H locs hW ls hl
                      unfold f_L_law_j459 at h
                      refine lv_istore (lv' := [(15, .int w459), (0, .ref b), (1, .ref (A 0)), (2, .ref (A2 0)), (3, .ref (A3 0)), (4, .ref (A4 0)), (5, .ref (A5 0)), (6, .ref (A6 0)), (7, .ref (A7 0)), (8, .ref (A8 0)), (9, .int v111.1), (16, .int ((16 * t140) + t15)), (17, .int t142)]) hx hb dL_law_459 hl (by decide) rfl (fun ls hl => ?_)
                      refine lv_aload hx hb dL_law_461 (lv_at hl 7 rfl) ?_
                      refine lv_iload hx hb dL_law_463 (lv_at hl 11 rfl) ?_
                      refine lv_iload hx hb dL_law_465 (lv_at hl 12 rfl) ?_
                      obtain ⟨g148, h⟩ := q_g h
                      refine r_iast C hW (bs' := [wX5 g A 0 t145.2, [(A2 0, .inl (gI g, 48, .inl v111.2.2.1))], [(A3 0, .inl (gI g, 48, .inl v111.2.2.2.1))], [(A4 0, .inl (gI g, 48, .inl v111.2.2.2.2.1))], [(A5 0, .inl (gI g, 48, .inl v111.2.2.2.2.2.1))], [(A6 0, .inl (gI g, 32, .inl (upd v111.2.2.2.2.2.2.1 ((16 * t140) + t15).toNatClampNeg t142)))], [(A7 0, .inl (gI g, 32, .inl v111.2.2.2.2.2.2.2.1))], [(A8 0, .inl (gI g, 10, .inl v111.2.2.2.2.2.2.2.2))]]) 5 0 rfl rfl g148 dL_law_467 rfl (fun H locs hW => ?_)
                      refine lv_aload hx hb dL_law_468 (lv_at hl 8 rfl) ?_
                      refine lv_iload hx hb dL_law_470 (lv_at hl 11 rfl) ?_
                      refine lv_iload hx hb dL_law_472 (lv_at hl 12 rfl) ?_
                      have J483 : ∀ (w483 : Int32), f_L_law_j483 L xs (lpN (f_L_law_l111 L xs) n111) v111 t15 t140 t142 t145 w459 w483 = some (1 : Int32) → ∀ (H : Heap) (locs : List Loc), WdG g Z s.heap H locs [wX5 g A 0 t145.2, [(A2 0, .inl (gI g, 48, .inl v111.2.2.1))], [(A3 0, .inl (gI g, 48, .inl v111.2.2.2.1))], [(A4 0, .inl (gI g, 48, .inl v111.2.2.2.2.1))], [(A5 0, .inl (gI g, 48, .inl v111.2.2.2.2.2.1))], [(A6 0, .inl (gI g, 32, .inl (upd v111.2.2.2.2.2.2.1 ((16 * t140) + t15).toNatClampNeg t142)))], [(A7 0, .inl (gI g, 32, .inl v111.2.2.2.2.2.2.2.1))], [(A8 0, .inl (gI g, 10, .inl v111.2.2.2.2.2.2.2.2))]] → ∀ ls : Array Slot, lv_has ls 24 [(0, .ref b), (1, .ref (A 0)), (2, .ref (A2 0)), (3, .ref (A3 0)), (4, .ref (A4 0)), (5, .ref (A5 0)), (6, .ref (A6 0)), (7, .ref (A7 0)), (8, .ref (A8 0)), (9, .int v111.1), (15, .int w459)] → W p l e R s m args below meth c H locs kc ks Q (F0 m 483 ls [.int w483, .int ((16 * t140) + t15), .ref (A7 0)]) := by
                        intro w483 h H locs hW ls hl
                        unfold f_L_law_j483 at h
                        obtain ⟨g149, h⟩ := q_g h
                        refine r_iast C hW (bs' := [wX5 g A 0 t145.2, [(A2 0, .inl (gI g, 48, .inl v111.2.2.1))], [(A3 0, .inl (gI g, 48, .inl v111.2.2.2.1))], [(A4 0, .inl (gI g, 48, .inl v111.2.2.2.2.1))], [(A5 0, .inl (gI g, 48, .inl v111.2.2.2.2.2.1))], [(A6 0, .inl (gI g, 32, .inl (upd v111.2.2.2.2.2.2.1 ((16 * t140) + t15).toNatClampNeg t142)))], [(A7 0, .inl (gI g, 32, .inl (upd v111.2.2.2.2.2.2.2.1 ((16 * t140) + t15).toNatClampNeg w483)))], [(A8 0, .inl (gI g, 10, .inl v111.2.2.2.2.2.2.2.2))]]) 6 0 rfl rfl g149 dL_law_483 rfl (fun H locs hW => ?_)
                        refine lv_goto (tgt := 960) hx hb dL_law_484 (by decide) ?_
                        exact J960 (w459, t145.2, v111.2.2.1, v111.2.2.2.1, v111.2.2.2.2.1, v111.2.2.2.2.2.1, (upd v111.2.2.2.2.2.2.1 ((16 * t140) + t15).toNatClampNeg t142), (upd v111.2.2.2.2.2.2.2.1 ((16 * t140) + t15).toNatClampNeg w483), v111.2.2.2.2.2.2.2.2) h _ _ hW _ (lv_sub hl [0, 1, 2, 3, 4, 5, 6, 7, 8, 9, 10] rfl)
                      refine lv_if_ne (tgt := 481) hx hb dL_law_474 (by decide) (fun e150 => ?_) (fun e150 => ?_)
                      · replace h := q_f e150 h
                        refine lv_bipush (v := 100) hx hb dL_law_481 (by decide) ?_
                        exact J483 100 h _ _ hW _ (lv_sub hl [1, 2, 3, 4, 5, 6, 7, 8, 9, 10, 0] rfl)
                      · replace h := q_t e150 h
                        refine lv_iconst (v := 0) hx hb dL_law_477 (by decide) ?_
                        refine lv_goto (tgt := 483) hx hb dL_law_478 (by decide) ?_
                        exact J483 0 h _ _ hW _ (lv_sub hl [1, 2, 3, 4, 5, 6, 7, 8, 9, 10, 0] rfl)
                    refine lv_icmp_ne (tgt := 458) hx hb dL_law_451 (by decide) (fun e151 => ?_) (fun e151 => ?_)
                    · replace h := q_f e151 h
                      refine lv_iconst (v := 0) hx hb dL_law_458 (by decide) ?_
                      exact J459 0 h _ _ hW _ (lv_sub hl [8, 9, 10, 11, 12, 13, 14, 15, 16, 17, 1, 0] rfl)
                    · replace h := q_t e151 h
                      refine lv_iconst (v := 1) hx hb dL_law_454 (by decide) ?_
                      refine lv_goto (tgt := 459) hx hb dL_law_455 (by decide) ?_
                      exact J459 1 h _ _ hW _ (lv_sub hl [8, 9, 10, 11, 12, 13, 14, 15, 16, 17, 1, 0] rfl)
                · replace h := q_f e69 h
                  refine lv_iconst (v := 0) hx hb dL_law_312 (by decide) ?_
                  refine lv_istore (lv' := [(16, .int 0), (15, .int 1), (14, .int ((16 * t13) + t15)), (13, .int t15), (12, .int t13), (11, .int t11), (10, .int t9), (0, .ref b), (1, .ref (A 0)), (2, .ref (A2 0)), (3, .ref (A3 0)), (4, .ref (A4 0)), (5, .ref (A5 0)), (6, .ref (A6 0)), (7, .ref (A7 0)), (8, .ref (A8 0)), (9, .int v111.1)]) hx hb dL_law_313 hl (by decide) rfl (fun ls hl => ?_)
                  refine lv_aload hx hb dL_law_315 (lv_at hl 11 rfl) ?_
                  refine lv_iload hx hb dL_law_317 (lv_at hl 2 rfl) ?_
                  refine lv_iload hx hb dL_law_319 (lv_at hl 6 rfl) ?_
                  refine lv_bipush (v := 11) hx hb dL_law_321 (by decide) ?_
                  refine lv_ishr hx hb dL_law_323 ?_
                  refine lv_iconst (v := 4) hx hb dL_law_324 (by decide) ?_
                  obtain ⟨t152, h153, h⟩ := q_b h
                  refine r_cSi C hW (nA := 2) (As := [.int (t9 >>> ((11 : Int32) &&& 31)), .int 4]) (rest := [.int ((16 * t13) + t15), .ref (A4 0)]) (c_L_low l g (t9 >>> ((11 : Int32) &&& 31)) 4 _ h153) gL_law_L_low rfl wo_L_low (rmk hR rfl rfl) rfl rfl hl.1 (Nat.le_of_ble_eq_true rfl) ⟨by rw [hz.1]; omega, by rw [hz.2]; omega⟩ dL_law_325 (n := 8) (is := []) (rs := [0, 1, 2, 3, 4, 5, 6, 7]) (bs' := [wX5 g A 0 v111.2.1, [(A2 0, .inl (gI g, 48, .inl v111.2.2.1))], [(A3 0, .inl (gI g, 48, .inl v111.2.2.2.1))], [(A4 0, .inl (gI g, 48, .inl v111.2.2.2.2.1))], [(A5 0, .inl (gI g, 48, .inl v111.2.2.2.2.2.1))], [(A6 0, .inl (gI g, 32, .inl v111.2.2.2.2.2.2.1))], [(A7 0, .inl (gI g, 32, .inl v111.2.2.2.2.2.2.2.1))], [(A8 0, .inl (gI g, 10, .inl v111.2.2.2.2.2.2.2.2))]]) rfl rfl pm_5c3e962e rfl rfl rfl (fun H locs hW => ?_)
                  obtain ⟨g154, h⟩ := q_g h
                  refine r_iast C hW (bs' := [wX5 g A 0 v111.2.1, [(A2 0, .inl (gI g, 48, .inl v111.2.2.1))], [(A3 0, .inl (gI g, 48, .inl v111.2.2.2.1))], [(A4 0, .inl (gI g, 48, .inl (upd v111.2.2.2.2.1 ((16 * t13) + t15).toNatClampNeg t152)))], [(A5 0, .inl (gI g, 48, .inl v111.2.2.2.2.2.1))], [(A6 0, .inl (gI g, 32, .inl v111.2.2.2.2.2.2.1))], [(A7 0, .inl (gI g, 32, .inl v111.2.2.2.2.2.2.2.1))], [(A8 0, .inl (gI g, 10, .inl v111.2.2.2.2.2.2.2.2))]]) 3 0 rfl rfl g154 dL_law_328 rfl (fun H locs hW => ?_)
                  refine lv_aload hx hb dL_law_329 (lv_at hl 12 rfl) ?_
                  refine lv_iload hx hb dL_law_331 (lv_at hl 2 rfl) ?_
                  refine lv_bipush (v := 100) hx hb dL_law_333 (by decide) ?_
                  obtain ⟨g155, h⟩ := q_g h
                  refine r_iast C hW (bs' := [wX5 g A 0 v111.2.1, [(A2 0, .inl (gI g, 48, .inl v111.2.2.1))], [(A3 0, .inl (gI g, 48, .inl v111.2.2.2.1))], [(A4 0, .inl (gI g, 48, .inl (upd v111.2.2.2.2.1 ((16 * t13) + t15).toNatClampNeg t152)))], [(A5 0, .inl (gI g, 48, .inl (upd v111.2.2.2.2.2.1 ((16 * t13) + t15).toNatClampNeg 100)))], [(A6 0, .inl (gI g, 32, .inl v111.2.2.2.2.2.2.1))], [(A7 0, .inl (gI g, 32, .inl v111.2.2.2.2.2.2.2.1))], [(A8 0, .inl (gI g, 10, .inl v111.2.2.2.2.2.2.2.2))]]) 4 0 rfl rfl g155 dL_law_335 rfl (fun H locs hW => ?_)
                  refine lv_iconst (v := 0) hx hb dL_law_336 (by decide) ?_
                  refine lv_istore (lv' := [(17, .int 0), (16, .int 0), (15, .int 1), (14, .int ((16 * t13) + t15)), (13, .int t15), (12, .int t13), (11, .int t11), (10, .int t9), (0, .ref b), (1, .ref (A 0)), (2, .ref (A2 0)), (3, .ref (A3 0)), (4, .ref (A4 0)), (5, .ref (A5 0)), (6, .ref (A6 0)), (7, .ref (A7 0)), (8, .ref (A8 0)), (9, .int v111.1)]) hx hb dL_law_337 hl (by decide) rfl (fun ls hl => ?_)
                  have L339 : ∀ n339 : Nat, ∀ (v339 : Int32 × Int32), lpN (f_L_law_l339 L xs (lpN (f_L_law_l111 L xs) n111) v111 t13 t15 t152) n339 v339 = some (1 : Int32) → ∀ (H : Heap) (locs : List Loc), WdG g Z s.heap H locs [wX5 g A 0 v111.2.1, [(A2 0, .inl (gI g, 48, .inl v111.2.2.1))], [(A3 0, .inl (gI g, 48, .inl v111.2.2.2.1))], [(A4 0, .inl (gI g, 48, .inl (upd v111.2.2.2.2.1 ((16 * t13) + t15).toNatClampNeg t152)))], [(A5 0, .inl (gI g, 48, .inl (upd v111.2.2.2.2.2.1 ((16 * t13) + t15).toNatClampNeg 100)))], [(A6 0, .inl (gI g, 32, .inl v111.2.2.2.2.2.2.1))], [(A7 0, .inl (gI g, 32, .inl v111.2.2.2.2.2.2.2.1))], [(A8 0, .inl (gI g, 10, .inl v111.2.2.2.2.2.2.2.2))]] → ∀ ls : Array Slot, lv_has ls 24 [(0, .ref b), (1, .ref (A 0)), (2, .ref (A2 0)), (3, .ref (A3 0)), (4, .ref (A4 0)), (5, .ref (A5 0)), (6, .ref (A6 0)), (7, .ref (A7 0)), (8, .ref (A8 0)), (9, .int v111.1), (12, .int t13), (13, .int t15), (14, .int ((16 * t13) + t15)), (16, .int v339.1), (17, .int v339.2)] → W p l e R s m args below meth c H locs kc ks Q (F0 m 339 ls []) := by
                    intro n339
                    induction n339 with
                    | zero => intro v339 h; exact absurd (show none = some (1 : Int32) from h) (fun h => by cases h)
                    | succ n339 ih339 =>
                      intro v339 h H locs hW ls hl
                      replace h : f_L_law_l339 L xs (lpN (f_L_law_l111 L xs) n111) v111 t13 t15 t152 (lpN (f_L_law_l339 L xs (lpN (f_L_law_l111 L xs) n111) v111 t13 t15 t152) n339) v339 = some (1 : Int32) := h
                      unfold f_L_law_l339 at h
                      refine lv_iload hx hb dL_law_339 (lv_at hl 14 rfl) ?_
                      refine lv_bipush (v := 48) hx hb dL_law_341 (by decide) ?_
                      refine lv_icmp_ge (tgt := 370) hx hb dL_law_343 (by decide) (fun e156 => ?_) (fun e156 => ?_)
                      · replace h := q_t e156 h
                        refine lv_aload_n hx hb dL_law_370 rfl (lv_at hl 1 rfl) ?_
                        refine lv_iload hx hb dL_law_371 (lv_at hl 10 rfl) ?_
                        refine lv_iload hx hb dL_law_373 (lv_at hl 11 rfl) ?_
                        refine lv_aload hx hb dL_law_375 (lv_at hl 4 rfl) ?_
                        refine lv_iload hx hb dL_law_377 (lv_at hl 12 rfl) ?_
                        obtain ⟨g157, h⟩ := q_g h
                        refine r_iald C hW 3 0 rfl rfl g157 dL_law_379 ?_
                        obtain ⟨t158, h159, h⟩ := q_b h
                        refine r_cVi C hW (nA := 3) (As := [.int t13, .int t15, .int ((upd v111.2.2.2.2.1 ((16 * t13) + t15).toNatClampNeg t152) ((16 * t13) + t15).toNatClampNeg)]) (rest := []) (c_X5_word l g A 0 v111.2.1 t13 t15 ((upd v111.2.2.2.2.1 ((16 * t13) + t15).toNatClampNeg t152) ((16 * t13) + t15).toNatClampNeg) _ _ h159) gL_law_X5_word rfl ⟨rfl, wo_X5_word⟩ (rmk hR rfl rfl) rfl rfl rfl rfl hl.1 (Nat.le_of_ble_eq_true rfl) ⟨by rw [hz.1]; omega, by rw [hz.2]; omega⟩ dL_law_380 (n := 8) (is := [0]) (rs := [1, 2, 3, 4, 5, 6, 7]) (bs' := [wX5 g A 0 t158.2, [(A2 0, .inl (gI g, 48, .inl v111.2.2.1))], [(A3 0, .inl (gI g, 48, .inl v111.2.2.2.1))], [(A4 0, .inl (gI g, 48, .inl (upd v111.2.2.2.2.1 ((16 * t13) + t15).toNatClampNeg t152)))], [(A5 0, .inl (gI g, 48, .inl (upd v111.2.2.2.2.2.1 ((16 * t13) + t15).toNatClampNeg 100)))], [(A6 0, .inl (gI g, 32, .inl v111.2.2.2.2.2.2.1))], [(A7 0, .inl (gI g, 32, .inl v111.2.2.2.2.2.2.2.1))], [(A8 0, .inl (gI g, 10, .inl v111.2.2.2.2.2.2.2.2))]]) rfl rfl pm_135268d1 (List.append_nil _) (List.append_nil _) rfl (fun H locs hW => ?_)
                        refine lv_iload hx hb dL_law_383 (lv_at hl 13 rfl) ?_
                        have J393 : ∀ (w393 : Int32), f_L_law_j393 L xs (lpN (f_L_law_l111 L xs) n111) v111 t13 t15 t152 t158 w393 = some (1 : Int32) → ∀ (H : Heap) (locs : List Loc), WdG g Z s.heap H locs [wX5 g A 0 t158.2, [(A2 0, .inl (gI g, 48, .inl v111.2.2.1))], [(A3 0, .inl (gI g, 48, .inl v111.2.2.2.1))], [(A4 0, .inl (gI g, 48, .inl (upd v111.2.2.2.2.1 ((16 * t13) + t15).toNatClampNeg t152)))], [(A5 0, .inl (gI g, 48, .inl (upd v111.2.2.2.2.2.1 ((16 * t13) + t15).toNatClampNeg 100)))], [(A6 0, .inl (gI g, 32, .inl v111.2.2.2.2.2.2.1))], [(A7 0, .inl (gI g, 32, .inl v111.2.2.2.2.2.2.2.1))], [(A8 0, .inl (gI g, 10, .inl v111.2.2.2.2.2.2.2.2))]] → ∀ ls : Array Slot, lv_has ls 24 [(0, .ref b), (1, .ref (A 0)), (2, .ref (A2 0)), (3, .ref (A3 0)), (4, .ref (A4 0)), (5, .ref (A5 0)), (6, .ref (A6 0)), (7, .ref (A7 0)), (8, .ref (A8 0)), (9, .int v111.1)] → W p l e R s m args below meth c H locs kc ks Q (F0 m 393 ls [.int w393]) := by
                          intro w393 h H locs hW ls hl
                          unfold f_L_law_j393 at h
                          refine lv_istore (lv' := [(15, .int w393), (0, .ref b), (1, .ref (A 0)), (2, .ref (A2 0)), (3, .ref (A3 0)), (4, .ref (A4 0)), (5, .ref (A5 0)), (6, .ref (A6 0)), (7, .ref (A7 0)), (8, .ref (A8 0)), (9, .int v111.1)]) hx hb dL_law_393 hl (by decide) rfl (fun ls hl => ?_)
                          refine lv_goto (tgt := 960) hx hb dL_law_395 (by decide) ?_
                          exact J960 (w393, t158.2, v111.2.2.1, v111.2.2.2.1, (upd v111.2.2.2.2.1 ((16 * t13) + t15).toNatClampNeg t152), (upd v111.2.2.2.2.2.1 ((16 * t13) + t15).toNatClampNeg 100), v111.2.2.2.2.2.2.1, v111.2.2.2.2.2.2.2.1, v111.2.2.2.2.2.2.2.2) h _ _ hW _ (lv_sub hl [1, 2, 3, 4, 5, 6, 7, 8, 9, 10, 0] rfl)
                        refine lv_icmp_ne (tgt := 392) hx hb dL_law_385 (by decide) (fun e160 => ?_) (fun e160 => ?_)
                        · replace h := q_f e160 h
                          refine lv_iconst (v := 0) hx hb dL_law_392 (by decide) ?_
                          exact J393 0 h _ _ hW _ (lv_sub hl [0, 1, 2, 3, 4, 5, 6, 7, 8, 9] rfl)
                        · replace h := q_t e160 h
                          refine lv_iconst (v := 1) hx hb dL_law_388 (by decide) ?_
                          refine lv_goto (tgt := 393) hx hb dL_law_389 (by decide) ?_
                          exact J393 1 h _ _ hW _ (lv_sub hl [0, 1, 2, 3, 4, 5, 6, 7, 8, 9] rfl)
                      · replace h := q_f e156 h
                        refine lv_iload hx hb dL_law_346 (lv_at hl 13 rfl) ?_
                        refine lv_aload hx hb dL_law_348 (lv_at hl 4 rfl) ?_
                        refine lv_iload hx hb dL_law_350 (lv_at hl 14 rfl) ?_
                        obtain ⟨g161, h⟩ := q_g h
                        refine r_iald C hW 3 0 rfl rfl g161 dL_law_352 ?_
                        refine lv_if_lt (tgt := 360) hx hb dL_law_353 (by decide) (fun e162 => ?_) (fun e162 => ?_)
                        · replace h := q_t e162 h
                          refine lv_iconst (v := 0) hx hb dL_law_360 (by decide) ?_
                          refine lv_iadd hx hb dL_law_361 ?_
                          refine lv_istore (lv' := [(16, .int (v339.1 + 0)), (0, .ref b), (1, .ref (A 0)), (2, .ref (A2 0)), (3, .ref (A3 0)), (4, .ref (A4 0)), (5, .ref (A5 0)), (6, .ref (A6 0)), (7, .ref (A7 0)), (8, .ref (A8 0)), (9, .int v111.1), (12, .int t13), (13, .int t15), (14, .int ((16 * t13) + t15)), (17, .int v339.2)]) hx hb dL_law_362 hl (by decide) rfl (fun ls hl => ?_)
                          refine lv_iinc (v := (v339.2 + 1)) (lv' := [(17, .int (v339.2 + 1)), (16, .int (v339.1 + 0)), (0, .ref b), (1, .ref (A 0)), (2, .ref (A2 0)), (3, .ref (A3 0)), (4, .ref (A4 0)), (5, .ref (A5 0)), (6, .ref (A6 0)), (7, .ref (A7 0)), (8, .ref (A8 0)), (9, .int v111.1), (12, .int t13), (13, .int t15), (14, .int ((16 * t13) + t15))]) hx hb dL_law_364 hl (k := 14) rfl rfl (by decide) rfl (fun ls hl => ?_)
                          refine lv_goto (tgt := 339) hx hb dL_law_367 (by decide) ?_
                          exact ih339 ((v339.1 + 0), (v339.2 + 1)) h _ _ hW _ (lv_sub hl [2, 3, 4, 5, 6, 7, 8, 9, 10, 11, 12, 13, 14, 1, 0] rfl)
                        · replace h := q_f e162 h
                          refine lv_iconst (v := 1) hx hb dL_law_356 (by decide) ?_
                          refine lv_goto (tgt := 361) hx hb dL_law_357 (by decide) ?_
                          refine lv_iadd hx hb dL_law_361 ?_
                          refine lv_istore (lv' := [(16, .int (v339.1 + 1)), (0, .ref b), (1, .ref (A 0)), (2, .ref (A2 0)), (3, .ref (A3 0)), (4, .ref (A4 0)), (5, .ref (A5 0)), (6, .ref (A6 0)), (7, .ref (A7 0)), (8, .ref (A8 0)), (9, .int v111.1), (12, .int t13), (13, .int t15), (14, .int ((16 * t13) + t15)), (17, .int v339.2)]) hx hb dL_law_362 hl (by decide) rfl (fun ls hl => ?_)
                          refine lv_iinc (v := (v339.2 + 1)) (lv' := [(17, .int (v339.2 + 1)), (16, .int (v339.1 + 1)), (0, .ref b), (1, .ref (A 0)), (2, .ref (A2 0)), (3, .ref (A3 0)), (4, .ref (A4 0)), (5, .ref (A5 0)), (6, .ref (A6 0)), (7, .ref (A7 0)), (8, .ref (A8 0)), (9, .int v111.1), (12, .int t13), (13, .int t15), (14, .int ((16 * t13) + t15))]) hx hb dL_law_364 hl (k := 14) rfl rfl (by decide) rfl (fun ls hl => ?_)
                          refine lv_goto (tgt := 339) hx hb dL_law_367 (by decide) ?_
                          exact ih339 ((v339.1 + 1), (v339.2 + 1)) h _ _ hW _ (lv_sub hl [2, 3, 4, 5, 6, 7, 8, 9, 10, 11, 12, 13, 14, 1, 0] rfl)
                  exact L339 3000 (0, 0) h _ _ hW _ (lv_sub hl [8, 9, 10, 11, 12, 13, 14, 15, 16, 17, 5, 4, 3, 1, 0] rfl)
              · replace h := q_f e68 h
                refine lv_iload hx hb dL_law_177 (lv_at hl 5 rfl) ?_
                refine lv_bipush (v := 11) hx hb dL_law_179 (by decide) ?_
                refine lv_ishr hx hb dL_law_181 ?_
                refine lv_iconst (v := 3) hx hb dL_law_182 (by decide) ?_
                obtain ⟨t163, h164, h⟩ := q_b h
                refine r_cSi C hW (nA := 2) (As := [.int (t9 >>> ((11 : Int32) &&& 31)), .int 3]) (rest := []) (c_L_low l g (t9 >>> ((11 : Int32) &&& 31)) 3 _ h164) gL_law_L_low rfl wo_L_low (rmk hR rfl rfl) rfl rfl hl.1 (Nat.le_of_ble_eq_true rfl) ⟨by rw [hz.1]; omega, by rw [hz.2]; omega⟩ dL_law_183 (n := 8) (is := []) (rs := [0, 1, 2, 3, 4, 5, 6, 7]) (bs' := [wX5 g A 0 v111.2.1, [(A2 0, .inl (gI g, 48, .inl v111.2.2.1))], [(A3 0, .inl (gI g, 48, .inl v111.2.2.2.1))], [(A4 0, .inl (gI g, 48, .inl v111.2.2.2.2.1))], [(A5 0, .inl (gI g, 48, .inl v111.2.2.2.2.2.1))], [(A6 0, .inl (gI g, 32, .inl v111.2.2.2.2.2.2.1))], [(A7 0, .inl (gI g, 32, .inl v111.2.2.2.2.2.2.2.1))], [(A8 0, .inl (gI g, 10, .inl v111.2.2.2.2.2.2.2.2))]]) rfl rfl pm_5c3e962e rfl rfl rfl (fun H locs hW => ?_)
                refine lv_istore (lv' := [(16, .int t163), (15, .int 1), (14, .int ((16 * t13) + t15)), (13, .int t15), (12, .int t13), (11, .int t11), (10, .int t9), (0, .ref b), (1, .ref (A 0)), (2, .ref (A2 0)), (3, .ref (A3 0)), (4, .ref (A4 0)), (5, .ref (A5 0)), (6, .ref (A6 0)), (7, .ref (A7 0)), (8, .ref (A8 0)), (9, .int v111.1)]) hx hb dL_law_186 hl (by decide) rfl (fun ls hl => ?_)
                refine lv_aload_n hx hb dL_law_188 rfl (lv_at hl 9 rfl) ?_
                refine lv_aload hx hb dL_law_189 (lv_at hl 13 rfl) ?_
                refine lv_iload hx hb dL_law_191 (lv_at hl 4 rfl) ?_
                refine lv_iload hx hb dL_law_193 (lv_at hl 3 rfl) ?_
                refine lv_iload hx hb dL_law_195 (lv_at hl 0 rfl) ?_
                obtain ⟨t165, h166, h⟩ := q_b h
                refine r_cSi C hW (nA := 5) (As := [.ref (A2 0), .ref (A6 0), .int t13, .int t15, .int t163]) (rest := []) (c_L_reason l g A2 0 A6 0 v111.2.2.1 v111.2.2.2.2.2.2.1 t13 t15 t163 _ h166) gL_law_L_reason rfl wo_L_reason (rmk hR rfl rfl) rfl rfl hl.1 (Nat.le_of_ble_eq_true rfl) ⟨by rw [hz.1]; omega, by rw [hz.2]; omega⟩ dL_law_197 (n := 8) (is := [1, 5]) (rs := [0, 2, 3, 4, 6, 7]) (bs' := [wX5 g A 0 v111.2.1, [(A2 0, .inl (gI g, 48, .inl v111.2.2.1))], [(A3 0, .inl (gI g, 48, .inl v111.2.2.2.1))], [(A4 0, .inl (gI g, 48, .inl v111.2.2.2.2.1))], [(A5 0, .inl (gI g, 48, .inl v111.2.2.2.2.2.1))], [(A6 0, .inl (gI g, 32, .inl v111.2.2.2.2.2.2.1))], [(A7 0, .inl (gI g, 32, .inl v111.2.2.2.2.2.2.2.1))], [(A8 0, .inl (gI g, 10, .inl v111.2.2.2.2.2.2.2.2))]]) rfl rfl pm_938efe57 rfl rfl rfl (fun H locs hW => ?_)
                refine lv_istore (lv' := [(17, .int t165), (16, .int t163), (15, .int 1), (14, .int ((16 * t13) + t15)), (13, .int t15), (12, .int t13), (11, .int t11), (10, .int t9), (0, .ref b), (1, .ref (A 0)), (2, .ref (A2 0)), (3, .ref (A3 0)), (4, .ref (A4 0)), (5, .ref (A5 0)), (6, .ref (A6 0)), (7, .ref (A7 0)), (8, .ref (A8 0)), (9, .int v111.1)]) hx hb dL_law_200 hl (by decide) rfl (fun ls hl => ?_)
                refine lv_iconst (v := 0) hx hb dL_law_202 (by decide) ?_
                refine lv_istore (lv' := [(18, .int 0), (17, .int t165), (16, .int t163), (15, .int 1), (14, .int ((16 * t13) + t15)), (13, .int t15), (12, .int t13), (11, .int t11), (10, .int t9), (0, .ref b), (1, .ref (A 0)), (2, .ref (A2 0)), (3, .ref (A3 0)), (4, .ref (A4 0)), (5, .ref (A5 0)), (6, .ref (A6 0)), (7, .ref (A7 0)), (8, .ref (A8 0)), (9, .int v111.1)]) hx hb dL_law_203 hl (by decide) rfl (fun ls hl => ?_)
                refine lv_iload hx hb dL_law_205 (lv_at hl 1 rfl) ?_
                have J222 : ∀ (w222 : TX5s × TV48s × TV48s × TV48s × TV48s × TV32s × TV32s × TV10s), f_L_law_j222 L xs (lpN (f_L_law_l111 L xs) n111) v111 t13 t15 t163 t165 w222 = some (1 : Int32) → ∀ (H : Heap) (locs : List Loc), WdG g Z s.heap H locs [wX5 g A 0 w222.1, [(A2 0, .inl (gI g, 48, .inl w222.2.1))], [(A3 0, .inl (gI g, 48, .inl w222.2.2.1))], [(A4 0, .inl (gI g, 48, .inl w222.2.2.2.1))], [(A5 0, .inl (gI g, 48, .inl w222.2.2.2.2.1))], [(A6 0, .inl (gI g, 32, .inl w222.2.2.2.2.2.1))], [(A7 0, .inl (gI g, 32, .inl w222.2.2.2.2.2.2.1))], [(A8 0, .inl (gI g, 10, .inl w222.2.2.2.2.2.2.2))]] → ∀ ls : Array Slot, lv_has ls 24 [(0, .ref b), (1, .ref (A 0)), (2, .ref (A2 0)), (3, .ref (A3 0)), (4, .ref (A4 0)), (5, .ref (A5 0)), (6, .ref (A6 0)), (7, .ref (A7 0)), (8, .ref (A8 0)), (9, .int v111.1), (12, .int t13), (13, .int t15), (16, .int t163), (17, .int t165), (18, .int 0)] → W p l e R s m args below meth c H locs kc ks Q (F0 m 222 ls []) := by
                  intro w222 h H locs hW ls hl
                  unfold f_L_law_j222 at h
                  refine lv_iconst (v := 0) hx hb dL_law_222 (by decide) ?_
                  refine lv_istore (lv' := [(19, .int 0), (0, .ref b), (1, .ref (A 0)), (2, .ref (A2 0)), (3, .ref (A3 0)), (4, .ref (A4 0)), (5, .ref (A5 0)), (6, .ref (A6 0)), (7, .ref (A7 0)), (8, .ref (A8 0)), (9, .int v111.1), (12, .int t13), (13, .int t15), (16, .int t163), (17, .int t165), (18, .int 0)]) hx hb dL_law_223 hl (by decide) rfl (fun ls hl => ?_)
                  have L225 : ∀ n225 : Nat, ∀ (v225 : Int32 × Int32), lpN (f_L_law_l225 L xs (lpN (f_L_law_l111 L xs) n111) v111 t13 t15 t163 t165 w222) n225 v225 = some (1 : Int32) → ∀ (H : Heap) (locs : List Loc), WdG g Z s.heap H locs [wX5 g A 0 w222.1, [(A2 0, .inl (gI g, 48, .inl w222.2.1))], [(A3 0, .inl (gI g, 48, .inl w222.2.2.1))], [(A4 0, .inl (gI g, 48, .inl w222.2.2.2.1))], [(A5 0, .inl (gI g, 48, .inl w222.2.2.2.2.1))], [(A6 0, .inl (gI g, 32, .inl w222.2.2.2.2.2.1))], [(A7 0, .inl (gI g, 32, .inl w222.2.2.2.2.2.2.1))], [(A8 0, .inl (gI g, 10, .inl w222.2.2.2.2.2.2.2))]] → ∀ ls : Array Slot, lv_has ls 24 [(0, .ref b), (1, .ref (A 0)), (2, .ref (A2 0)), (3, .ref (A3 0)), (4, .ref (A4 0)), (5, .ref (A5 0)), (6, .ref (A6 0)), (7, .ref (A7 0)), (8, .ref (A8 0)), (9, .int v111.1), (12, .int t13), (13, .int t15), (16, .int t163), (17, .int t165), (18, .int v225.1), (19, .int v225.2)] → W p l e R s m args below meth c H locs kc ks Q (F0 m 225 ls []) := by
                    intro n225
                    induction n225 with
                    | zero => intro v225 h; exact absurd (show none = some (1 : Int32) from h) (fun h => by cases h)
                    | succ n225 ih225 =>
                      intro v225 h H locs hW ls hl
                      replace h : f_L_law_l225 L xs (lpN (f_L_law_l111 L xs) n111) v111 t13 t15 t163 t165 w222 (lpN (f_L_law_l225 L xs (lpN (f_L_law_l111 L xs) n111) v111 t13 t15 t163 t165 w222) n225) v225 = some (1 : Int32) := h
                      unfold f_L_law_l225 at h
                      refine lv_iload hx hb dL_law_225 (lv_at hl 15 rfl) ?_
                      refine lv_bipush (v := 48) hx hb dL_law_227 (by decide) ?_
                      refine lv_icmp_ge (tgt := 255) hx hb dL_law_229 (by decide) (fun e167 => ?_) (fun e167 => ?_)
                      · replace h := q_t e167 h
                        refine lv_aload_n hx hb dL_law_255 rfl (lv_at hl 1 rfl) ?_
                        refine lv_iload hx hb dL_law_256 (lv_at hl 10 rfl) ?_
                        refine lv_iload hx hb dL_law_258 (lv_at hl 11 rfl) ?_
                        refine lv_iload hx hb dL_law_260 (lv_at hl 12 rfl) ?_
                        obtain ⟨t168, h169, h⟩ := q_b h
                        refine r_cVi C hW (nA := 3) (As := [.int t13, .int t15, .int t163]) (rest := []) (c_X5_whyNot l g A 0 w222.1 t13 t15 t163 _ h169) gL_law_X5_whyNot rfl ⟨rfl, wo_X5_whyNot⟩ (rmk hR rfl rfl) rfl rfl rfl rfl hl.1 (Nat.le_of_ble_eq_true rfl) ⟨by rw [hz.1]; omega, by rw [hz.2]; omega⟩ dL_law_262 (n := 8) (is := [0]) (rs := [1, 2, 3, 4, 5, 6, 7]) (bs' := [wX5 g A 0 w222.1, [(A2 0, .inl (gI g, 48, .inl w222.2.1))], [(A3 0, .inl (gI g, 48, .inl w222.2.2.1))], [(A4 0, .inl (gI g, 48, .inl w222.2.2.2.1))], [(A5 0, .inl (gI g, 48, .inl w222.2.2.2.2.1))], [(A6 0, .inl (gI g, 32, .inl w222.2.2.2.2.2.1))], [(A7 0, .inl (gI g, 32, .inl w222.2.2.2.2.2.2.1))], [(A8 0, .inl (gI g, 10, .inl w222.2.2.2.2.2.2.2))]]) rfl rfl pm_135268d1 (List.append_nil _) (List.append_nil _) rfl (fun H locs hW => ?_)
                        refine lv_iload hx hb dL_law_265 (lv_at hl 13 rfl) ?_
                        have J300 : ∀ (w300 : Int32 × TX5s × TV48s × TV48s × TV48s × TV48s × TV32s × TV32s × TV10s), f_L_law_j300 L xs (lpN (f_L_law_l111 L xs) n111) v111 w300 = some (1 : Int32) → ∀ (H : Heap) (locs : List Loc), WdG g Z s.heap H locs [wX5 g A 0 w300.2.1, [(A2 0, .inl (gI g, 48, .inl w300.2.2.1))], [(A3 0, .inl (gI g, 48, .inl w300.2.2.2.1))], [(A4 0, .inl (gI g, 48, .inl w300.2.2.2.2.1))], [(A5 0, .inl (gI g, 48, .inl w300.2.2.2.2.2.1))], [(A6 0, .inl (gI g, 32, .inl w300.2.2.2.2.2.2.1))], [(A7 0, .inl (gI g, 32, .inl w300.2.2.2.2.2.2.2.1))], [(A8 0, .inl (gI g, 10, .inl w300.2.2.2.2.2.2.2.2))]] → ∀ ls : Array Slot, lv_has ls 24 [(0, .ref b), (1, .ref (A 0)), (2, .ref (A2 0)), (3, .ref (A3 0)), (4, .ref (A4 0)), (5, .ref (A5 0)), (6, .ref (A6 0)), (7, .ref (A7 0)), (8, .ref (A8 0)), (9, .int v111.1)] → W p l e R s m args below meth c H locs kc ks Q (F0 m 300 ls [.int w300.1]) := by
                          intro w300 h H locs hW ls hl
                          unfold f_L_law_j300 at h
                          refine lv_istore (lv' := [(15, .int w300.1), (0, .ref b), (1, .ref (A 0)), (2, .ref (A2 0)), (3, .ref (A3 0)), (4, .ref (A4 0)), (5, .ref (A5 0)), (6, .ref (A6 0)), (7, .ref (A7 0)), (8, .ref (A8 0)), (9, .int v111.1)]) hx hb dL_law_300 hl (by decide) rfl (fun ls hl => ?_)
                          refine lv_goto (tgt := 960) hx hb dL_law_302 (by decide) ?_
                          exact J960 (w300.1, w300.2.1, w300.2.2.1, w300.2.2.2.1, w300.2.2.2.2.1, w300.2.2.2.2.2.1, w300.2.2.2.2.2.2.1, w300.2.2.2.2.2.2.2.1, w300.2.2.2.2.2.2.2.2) h _ _ hW _ (lv_sub hl [1, 2, 3, 4, 5, 6, 7, 8, 9, 10, 0] rfl)
                        have J299 : ∀ (w299 : TX5s × TV48s × TV48s × TV48s × TV48s × TV32s × TV32s × TV10s), f_L_law_j299 L xs (lpN (f_L_law_l111 L xs) n111) v111 w299 = some (1 : Int32) → ∀ (H : Heap) (locs : List Loc), WdG g Z s.heap H locs [wX5 g A 0 w299.1, [(A2 0, .inl (gI g, 48, .inl w299.2.1))], [(A3 0, .inl (gI g, 48, .inl w299.2.2.1))], [(A4 0, .inl (gI g, 48, .inl w299.2.2.2.1))], [(A5 0, .inl (gI g, 48, .inl w299.2.2.2.2.1))], [(A6 0, .inl (gI g, 32, .inl w299.2.2.2.2.2.1))], [(A7 0, .inl (gI g, 32, .inl w299.2.2.2.2.2.2.1))], [(A8 0, .inl (gI g, 10, .inl w299.2.2.2.2.2.2.2))]] → ∀ ls : Array Slot, lv_has ls 24 [(0, .ref b), (1, .ref (A 0)), (2, .ref (A2 0)), (3, .ref (A3 0)), (4, .ref (A4 0)), (5, .ref (A5 0)), (6, .ref (A6 0)), (7, .ref (A7 0)), (8, .ref (A8 0)), (9, .int v111.1)] → W p l e R s m args below meth c H locs kc ks Q (F0 m 299 ls []) := by
                          intro w299 h H locs hW ls hl
                          unfold f_L_law_j299 at h
                          refine lv_iconst (v := 0) hx hb dL_law_299 (by decide) ?_
                          exact J300 (0, w299.1, w299.2.1, w299.2.2.1, w299.2.2.2.1, w299.2.2.2.2.1, w299.2.2.2.2.2.1, w299.2.2.2.2.2.2.1, w299.2.2.2.2.2.2.2) h _ _ hW _ (lv_sub hl [0, 1, 2, 3, 4, 5, 6, 7, 8, 9] rfl)
                        refine lv_icmp_ne (tgt := 299) hx hb dL_law_267 (by decide) (fun e170 => ?_) (fun e170 => ?_)
                        · replace h := q_f e170 h
                          exact J299 (w222.1, w222.2.1, w222.2.2.1, w222.2.2.2.1, w222.2.2.2.2.1, w222.2.2.2.2.2.1, w222.2.2.2.2.2.2.1, w222.2.2.2.2.2.2.2) h _ _ hW _ (lv_sub hl [0, 1, 2, 3, 4, 5, 6, 7, 8, 9] rfl)
                        · replace h := q_t e170 h
                          refine lv_aload_n hx hb dL_law_270 rfl (lv_at hl 1 rfl) ?_
                          refine lv_iload hx hb dL_law_271 (lv_at hl 10 rfl) ?_
                          refine lv_iload hx hb dL_law_273 (lv_at hl 11 rfl) ?_
                          refine lv_iload hx hb dL_law_275 (lv_at hl 12 rfl) ?_
                          obtain ⟨t171, h172, h⟩ := q_b h
                          refine r_cVi C hW (nA := 3) (As := [.int t13, .int t15, .int t163]) (rest := []) (c_X5_arrow l g A 0 w222.1 t13 t15 t163 _ _ h172) gL_law_X5_arrow rfl ⟨rfl, wo_X5_arrow⟩ (rmk hR rfl rfl) rfl rfl rfl rfl hl.1 (Nat.le_of_ble_eq_true rfl) ⟨by rw [hz.1]; omega, by rw [hz.2]; omega⟩ dL_law_277 (n := 8) (is := [0]) (rs := [1, 2, 3, 4, 5, 6, 7]) (bs' := [wX5 g A 0 t171.2, [(A2 0, .inl (gI g, 48, .inl w222.2.1))], [(A3 0, .inl (gI g, 48, .inl w222.2.2.1))], [(A4 0, .inl (gI g, 48, .inl w222.2.2.2.1))], [(A5 0, .inl (gI g, 48, .inl w222.2.2.2.2.1))], [(A6 0, .inl (gI g, 32, .inl w222.2.2.2.2.2.1))], [(A7 0, .inl (gI g, 32, .inl w222.2.2.2.2.2.2.1))], [(A8 0, .inl (gI g, 10, .inl w222.2.2.2.2.2.2.2))]]) rfl rfl pm_135268d1 (List.append_nil _) (List.append_nil _) rfl (fun H locs hW => ?_)
                          refine lv_iload hx hb dL_law_280 (lv_at hl 13 rfl) ?_
                          have J292 : ∀ (w292 : Int32), f_L_law_j292 L xs (lpN (f_L_law_l111 L xs) n111) v111 w222 t171 w292 = some (1 : Int32) → ∀ (H : Heap) (locs : List Loc), WdG g Z s.heap H locs [wX5 g A 0 t171.2, [(A2 0, .inl (gI g, 48, .inl w222.2.1))], [(A3 0, .inl (gI g, 48, .inl w222.2.2.1))], [(A4 0, .inl (gI g, 48, .inl w222.2.2.2.1))], [(A5 0, .inl (gI g, 48, .inl w222.2.2.2.2.1))], [(A6 0, .inl (gI g, 32, .inl w222.2.2.2.2.2.1))], [(A7 0, .inl (gI g, 32, .inl w222.2.2.2.2.2.2.1))], [(A8 0, .inl (gI g, 10, .inl w222.2.2.2.2.2.2.2))]] → ∀ ls : Array Slot, lv_has ls 24 [(0, .ref b), (1, .ref (A 0)), (2, .ref (A2 0)), (3, .ref (A3 0)), (4, .ref (A4 0)), (5, .ref (A5 0)), (6, .ref (A6 0)), (7, .ref (A7 0)), (8, .ref (A8 0)), (9, .int v111.1)] → W p l e R s m args below meth c H locs kc ks Q (F0 m 292 ls [.int w292, .int t171.1]) := by
                            intro w292 h H locs hW ls hl
                            unfold f_L_law_j292 at h
                            refine lv_icmp_ne (tgt := 299) hx hb dL_law_292 (by decide) (fun e173 => ?_) (fun e173 => ?_)
                            · replace h := q_f e173 h
                              exact J299 (t171.2, w222.2.1, w222.2.2.1, w222.2.2.2.1, w222.2.2.2.2.1, w222.2.2.2.2.2.1, w222.2.2.2.2.2.2.1, w222.2.2.2.2.2.2.2) h _ _ hW _ (lv_sub hl [0, 1, 2, 3, 4, 5, 6, 7, 8, 9] rfl)
                            · replace h := q_t e173 h
                              refine lv_iconst (v := 1) hx hb dL_law_295 (by decide) ?_
                              refine lv_goto (tgt := 300) hx hb dL_law_296 (by decide) ?_
                              exact J300 (1, t171.2, w222.2.1, w222.2.2.1, w222.2.2.2.1, w222.2.2.2.2.1, w222.2.2.2.2.2.1, w222.2.2.2.2.2.2.1, w222.2.2.2.2.2.2.2) h _ _ hW _ (lv_sub hl [0, 1, 2, 3, 4, 5, 6, 7, 8, 9] rfl)
                          refine lv_if_le (tgt := 290) hx hb dL_law_282 (by decide) (fun e174 => ?_) (fun e174 => ?_)
                          · replace h := q_t e174 h
                            refine lv_iload hx hb dL_law_290 (lv_at hl 14 rfl) ?_
                            exact J292 v225.1 h _ _ hW _ (lv_sub hl [0, 1, 2, 3, 4, 5, 6, 7, 8, 9] rfl)
                          · replace h := q_f e174 h
                            refine lv_bipush (v := (-3)) hx hb dL_law_285 (by decide) ?_
                            refine lv_goto (tgt := 292) hx hb dL_law_287 (by decide) ?_
                            exact J292 (-3) h _ _ hW _ (lv_sub hl [0, 1, 2, 3, 4, 5, 6, 7, 8, 9] rfl)
                      · replace h := q_f e167 h
                        refine lv_iload hx hb dL_law_232 (lv_at hl 14 rfl) ?_
                        refine lv_aload_n hx hb dL_law_234 rfl (lv_at hl 2 rfl) ?_
                        refine lv_iload hx hb dL_law_235 (lv_at hl 15 rfl) ?_
                        obtain ⟨g175, h⟩ := q_g h
                        refine r_iald C hW 1 0 rfl rfl g175 dL_law_237 ?_
                        refine lv_if_lt (tgt := 245) hx hb dL_law_238 (by decide) (fun e176 => ?_) (fun e176 => ?_)
                        · replace h := q_t e176 h
                          refine lv_iconst (v := 0) hx hb dL_law_245 (by decide) ?_
                          refine lv_iadd hx hb dL_law_246 ?_
                          refine lv_istore (lv' := [(18, .int (v225.1 + 0)), (0, .ref b), (1, .ref (A 0)), (2, .ref (A2 0)), (3, .ref (A3 0)), (4, .ref (A4 0)), (5, .ref (A5 0)), (6, .ref (A6 0)), (7, .ref (A7 0)), (8, .ref (A8 0)), (9, .int v111.1), (12, .int t13), (13, .int t15), (16, .int t163), (17, .int t165), (19, .int v225.2)]) hx hb dL_law_247 hl (by decide) rfl (fun ls hl => ?_)
                          refine lv_iinc (v := (v225.2 + 1)) (lv' := [(19, .int (v225.2 + 1)), (18, .int (v225.1 + 0)), (0, .ref b), (1, .ref (A 0)), (2, .ref (A2 0)), (3, .ref (A3 0)), (4, .ref (A4 0)), (5, .ref (A5 0)), (6, .ref (A6 0)), (7, .ref (A7 0)), (8, .ref (A8 0)), (9, .int v111.1), (12, .int t13), (13, .int t15), (16, .int t163), (17, .int t165)]) hx hb dL_law_249 hl (k := 15) rfl rfl (by decide) rfl (fun ls hl => ?_)
                          refine lv_goto (tgt := 225) hx hb dL_law_252 (by decide) ?_
                          exact ih225 ((v225.1 + 0), (v225.2 + 1)) h _ _ hW _ (lv_sub hl [2, 3, 4, 5, 6, 7, 8, 9, 10, 11, 12, 13, 14, 15, 1, 0] rfl)
                        · replace h := q_f e176 h
                          refine lv_iconst (v := 1) hx hb dL_law_241 (by decide) ?_
                          refine lv_goto (tgt := 246) hx hb dL_law_242 (by decide) ?_
                          refine lv_iadd hx hb dL_law_246 ?_
                          refine lv_istore (lv' := [(18, .int (v225.1 + 1)), (0, .ref b), (1, .ref (A 0)), (2, .ref (A2 0)), (3, .ref (A3 0)), (4, .ref (A4 0)), (5, .ref (A5 0)), (6, .ref (A6 0)), (7, .ref (A7 0)), (8, .ref (A8 0)), (9, .int v111.1), (12, .int t13), (13, .int t15), (16, .int t163), (17, .int t165), (19, .int v225.2)]) hx hb dL_law_247 hl (by decide) rfl (fun ls hl => ?_)
                          refine lv_iinc (v := (v225.2 + 1)) (lv' := [(19, .int (v225.2 + 1)), (18, .int (v225.1 + 1)), (0, .ref b), (1, .ref (A 0)), (2, .ref (A2 0)), (3, .ref (A3 0)), (4, .ref (A4 0)), (5, .ref (A5 0)), (6, .ref (A6 0)), (7, .ref (A7 0)), (8, .ref (A8 0)), (9, .int v111.1), (12, .int t13), (13, .int t15), (16, .int t163), (17, .int t165)]) hx hb dL_law_249 hl (k := 15) rfl rfl (by decide) rfl (fun ls hl => ?_)
                          refine lv_goto (tgt := 225) hx hb dL_law_252 (by decide) ?_
                          exact ih225 ((v225.1 + 1), (v225.2 + 1)) h _ _ hW _ (lv_sub hl [2, 3, 4, 5, 6, 7, 8, 9, 10, 11, 12, 13, 14, 15, 1, 0] rfl)
                  exact L225 3000 (0, 0) h _ _ hW _ (lv_sub hl [1, 2, 3, 4, 5, 6, 7, 8, 9, 10, 11, 12, 13, 14, 15, 0] rfl)
                refine lv_if_ne (tgt := 222) hx hb dL_law_207 (by decide) (fun e177 => ?_) (fun e177 => ?_)
                · replace h := q_f e177 h
                  exact J222 (v111.2.1, v111.2.2.1, v111.2.2.2.1, v111.2.2.2.2.1, v111.2.2.2.2.2.1, v111.2.2.2.2.2.2.1, v111.2.2.2.2.2.2.2.1, v111.2.2.2.2.2.2.2.2) h _ _ hW _ (lv_sub hl [9, 10, 11, 12, 13, 14, 15, 16, 17, 18, 6, 5, 2, 1, 0] rfl)
                · replace h := q_t e177 h
                  refine lv_aload_n hx hb dL_law_210 rfl (lv_at hl 11 rfl) ?_
                  refine lv_iload hx hb dL_law_211 (lv_at hl 4 rfl) ?_
                  refine lv_iload hx hb dL_law_213 (lv_at hl 2 rfl) ?_
                  obtain ⟨g178, h⟩ := q_g h
                  refine r_iast C hW (bs' := [wX5 g A 0 v111.2.1, [(A2 0, .inl (gI g, 48, .inl (upd v111.2.2.1 ((16 * t13) + t15).toNatClampNeg t163)))], [(A3 0, .inl (gI g, 48, .inl v111.2.2.2.1))], [(A4 0, .inl (gI g, 48, .inl v111.2.2.2.2.1))], [(A5 0, .inl (gI g, 48, .inl v111.2.2.2.2.2.1))], [(A6 0, .inl (gI g, 32, .inl v111.2.2.2.2.2.2.1))], [(A7 0, .inl (gI g, 32, .inl v111.2.2.2.2.2.2.2.1))], [(A8 0, .inl (gI g, 10, .inl v111.2.2.2.2.2.2.2.2))]]) 1 0 rfl rfl g178 dL_law_215 rfl (fun H locs hW => ?_)
                  refine lv_aload_n hx hb dL_law_216 rfl (lv_at hl 12 rfl) ?_
                  refine lv_iload hx hb dL_law_217 (lv_at hl 4 rfl) ?_
                  refine lv_bipush (v := 100) hx hb dL_law_219 (by decide) ?_
                  obtain ⟨g179, h⟩ := q_g h
                  refine r_iast C hW (bs' := [wX5 g A 0 v111.2.1, [(A2 0, .inl (gI g, 48, .inl (upd v111.2.2.1 ((16 * t13) + t15).toNatClampNeg t163)))], [(A3 0, .inl (gI g, 48, .inl (upd v111.2.2.2.1 ((16 * t13) + t15).toNatClampNeg 100)))], [(A4 0, .inl (gI g, 48, .inl v111.2.2.2.2.1))], [(A5 0, .inl (gI g, 48, .inl v111.2.2.2.2.2.1))], [(A6 0, .inl (gI g, 32, .inl v111.2.2.2.2.2.2.1))], [(A7 0, .inl (gI g, 32, .inl v111.2.2.2.2.2.2.2.1))], [(A8 0, .inl (gI g, 10, .inl v111.2.2.2.2.2.2.2.2))]]) 2 0 rfl rfl g179 dL_law_221 rfl (fun H locs hW => ?_)
                  exact J222 (v111.2.1, (upd v111.2.2.1 ((16 * t13) + t15).toNatClampNeg t163), (upd v111.2.2.2.1 ((16 * t13) + t15).toNatClampNeg 100), v111.2.2.2.2.1, v111.2.2.2.2.2.1, v111.2.2.2.2.2.2.1, v111.2.2.2.2.2.2.2.1, v111.2.2.2.2.2.2.2.2) h _ _ hW _ (lv_sub hl [9, 10, 11, 12, 13, 14, 15, 16, 17, 18, 6, 5, 2, 1, 0] rfl)
        exact L111 100 _ _ (by omega) (by omega) (0, v51.2.1, v51.2.2.1, v51.2.2.2.1, v51.2.2.2.2.1, v51.2.2.2.2.2.1, v51.2.2.2.2.2.2.1, v51.2.2.2.2.2.2.2.1, (upd (upd (upd (upd (upd (upd v51.2.2.2.2.2.2.2.2 (0 : Int32).toNatClampNeg 30) (1 : Int32).toNatClampNeg 12) (2 : Int32).toNatClampNeg 5) (3 : Int32).toNatClampNeg 5) (4 : Int32).toNatClampNeg 5) (5 : Int32).toNatClampNeg 20)) h _ _ hW _ (lv_sub hl [1, 2, 3, 4, 5, 6, 7, 8, 9, 0] rfl)
      · replace h := q_f e1 h
        refine lv_aload_n hx hb dL_law_58 rfl (lv_at hl 2 rfl) ?_
        refine lv_iload hx hb dL_law_59 (lv_at hl 9 rfl) ?_
        refine lv_iconst (v := (-1)) hx hb dL_law_61 (by decide) ?_
        obtain ⟨g180, h⟩ := q_g h
        refine r_iast C hW (bs' := [wX5 g A 0 v51.2.1, [(A2 0, .inl (gI g, 48, .inl (upd v51.2.2.1 (v51.1).toNatClampNeg (-1))))], [(A3 0, .inl (gI g, 48, .inl v51.2.2.2.1))], [(A4 0, .inl (gI g, 48, .inl v51.2.2.2.2.1))], [(A5 0, .inl (gI g, 48, .inl v51.2.2.2.2.2.1))], [(A6 0, .inl (gI g, 32, .inl v51.2.2.2.2.2.2.1))], [(A7 0, .inl (gI g, 32, .inl v51.2.2.2.2.2.2.2.1))], [(A8 0, .inl (gI g, 10, .inl v51.2.2.2.2.2.2.2.2))]]) 1 0 rfl rfl g180 dL_law_62 rfl (fun H locs hW => ?_)
        refine lv_aload hx hb dL_law_63 (lv_at hl 4 rfl) ?_
        refine lv_iload hx hb dL_law_65 (lv_at hl 9 rfl) ?_
        refine lv_iconst (v := (-1)) hx hb dL_law_67 (by decide) ?_
        obtain ⟨g181, h⟩ := q_g h
        refine r_iast C hW (bs' := [wX5 g A 0 v51.2.1, [(A2 0, .inl (gI g, 48, .inl (upd v51.2.2.1 (v51.1).toNatClampNeg (-1))))], [(A3 0, .inl (gI g, 48, .inl v51.2.2.2.1))], [(A4 0, .inl (gI g, 48, .inl (upd v51.2.2.2.2.1 (v51.1).toNatClampNeg (-1))))], [(A5 0, .inl (gI g, 48, .inl v51.2.2.2.2.2.1))], [(A6 0, .inl (gI g, 32, .inl v51.2.2.2.2.2.2.1))], [(A7 0, .inl (gI g, 32, .inl v51.2.2.2.2.2.2.2.1))], [(A8 0, .inl (gI g, 10, .inl v51.2.2.2.2.2.2.2.2))]]) 3 0 rfl rfl g181 dL_law_68 rfl (fun H locs hW => ?_)
        refine lv_iinc (v := (v51.1 + 1)) (lv' := [(9, .int (v51.1 + 1)), (0, .ref b), (1, .ref (A 0)), (2, .ref (A2 0)), (3, .ref (A3 0)), (4, .ref (A4 0)), (5, .ref (A5 0)), (6, .ref (A6 0)), (7, .ref (A7 0)), (8, .ref (A8 0))]) hx hb dL_law_69 hl (k := 9) rfl rfl (by decide) rfl (fun ls hl => ?_)
        refine lv_goto (tgt := 51) hx hb dL_law_72 (by decide) ?_
        exact ih51 ((v51.1 + 1), v51.2.1, (upd v51.2.2.1 (v51.1).toNatClampNeg (-1)), v51.2.2.2.1, (upd v51.2.2.2.2.1 (v51.1).toNatClampNeg (-1)), v51.2.2.2.2.2.1, v51.2.2.2.2.2.2.1, v51.2.2.2.2.2.2.2.1, v51.2.2.2.2.2.2.2.2) h _ _ hW _ (lv_sub hl [1, 2, 3, 4, 5, 6, 7, 8, 9, 0] rfl)
  exact L51 3000 (0, x, (fun _ => 0), (fun _ => 0), (fun _ => 0), (fun _ => 0), (fun _ => 0), (fun _ => 0), (fun _ => 0)) h _ _ hW _ (lv_sub hl [8, 9, 7, 6, 5, 4, 3, 2, 1, 0] rfl)
