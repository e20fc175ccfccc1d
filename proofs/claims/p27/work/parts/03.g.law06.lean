def f_L_best_j366 (z4 : TV10s) (v10 : Int32 × Int32 × Int32) (w366 : Unit) : Option (Int32) :=
if (5 : Int32) < 0 ∨ 10 ≤ (5 : Int32).toNatClampNeg then none else
if (z4 (5 : Int32).toNatClampNeg) = 0 then (
some (-3))
else (
some v10.2.1)
def f_L_best_j321 (k10 : (Int32 × Int32 × Int32) → Option (Int32)) (v10 : Int32 × Int32 × Int32) (w52 : Int32) (w68 : Int32) (w271 : Int32) (w321 : Int32) : Option (Int32) :=
if v10.1 < w271 then (
k10 (w271, v10.2.2, (v10.2.2 + 1)))
else (
if w271 = v10.1 then (
if w271 ≤ 0 then (
k10 (v10.1, v10.2.1, (v10.2.2 + 1)))
else (
if w321 ≤ (w68 - w52) then (
k10 (v10.1, v10.2.1, (v10.2.2 + 1)))
else (
k10 (w271, v10.2.2, (v10.2.2 + 1)))))
else (
k10 (v10.1, v10.2.1, (v10.2.2 + 1))))
def f_L_best_j271 (k10 : (Int32 × Int32 × Int32) → Option (Int32)) (v10 : Int32 × Int32 × Int32) (w52 : Int32) (w68 : Int32) (w271 : Int32) : Option (Int32) :=
if 0 ≤ v10.2.1 then (
if (v10.2.1 - v10.2.1 / 16 * 16) ≤ (v10.2.1 / 16) then (
f_L_best_j321 k10 v10 w52 w68 w271 ((v10.2.1 / 16) - (v10.2.1 - v10.2.1 / 16 * 16)))
else (
f_L_best_j321 k10 v10 w52 w68 w271 ((v10.2.1 - v10.2.1 / 16 * 16) - (v10.2.1 / 16))))
else (
f_L_best_j321 k10 v10 w52 w68 w271 99)
def f_L_best_j253 (z4 : TV10s) (k10 : (Int32 × Int32 × Int32) → Option (Int32)) (v10 : Int32 × Int32 × Int32) (w52 : Int32) (w68 : Int32) (w253 : Int32) : Option (Int32) :=
if (5 : Int32) < 0 ∨ 10 ≤ (5 : Int32).toNatClampNeg then none else
if (z4 (5 : Int32).toNatClampNeg) ≤ w253 then (
if (5 : Int32) < 0 ∨ 10 ≤ (5 : Int32).toNatClampNeg then none else
f_L_best_j271 k10 v10 w52 w68 (z4 (5 : Int32).toNatClampNeg))
else (
f_L_best_j271 k10 v10 w52 w68 w253)
def f_L_best_j208 (z3 : TV32s) (k77 : (Int32 × Int32) → Option (Int32)) (v77 : Int32 × Int32) (w101 : Int32) (w119 : Int32) (w138 : Int32) (w154 : Int32) (w173 : Int32) (w192 : Int32) (w208 : Int32) : Option (Int32) :=
if (16 + v77.2) < 0 ∨ 32 ≤ (16 + v77.2).toNatClampNeg then none else
(f_L_weak (z3 (16 + v77.2).toNatClampNeg)).bind fun t49 =>
if t49 = 0 then (
k77 ((v77.1 + (((((((w101 + w119) + w138) + w154) + w173) + w192) + w208) + 0)), (v77.2 + 1)))
else (
k77 ((v77.1 + (((((((w101 + w119) + w138) + w154) + w173) + w192) + w208) + 1)), (v77.2 + 1)))
def f_L_best_j192 (z3 : TV32s) (k77 : (Int32 × Int32) → Option (Int32)) (v77 : Int32 × Int32) (w101 : Int32) (w119 : Int32) (w138 : Int32) (w154 : Int32) (w173 : Int32) (w192 : Int32) : Option (Int32) :=
if v77.2 < 0 ∨ 32 ≤ (v77.2).toNatClampNeg then none else
(f_L_weak (z3 (v77.2).toNatClampNeg)).bind fun t46 =>
if t46 = 0 then (
f_L_best_j208 z3 k77 v77 w101 w119 w138 w154 w173 w192 0)
else (
f_L_best_j208 z3 k77 v77 w101 w119 w138 w154 w173 w192 1)
def f_L_best_j173 (y : TV48s) (z3 : TV32s) (k77 : (Int32 × Int32) → Option (Int32)) (v77 : Int32 × Int32) (w101 : Int32) (w119 : Int32) (w138 : Int32) (w154 : Int32) (w173 : Int32) : Option (Int32) :=
if (32 + v77.2) < 0 ∨ 48 ≤ (32 + v77.2).toNatClampNeg then none else
(f_L_weak (y (32 + v77.2).toNatClampNeg)).bind fun t43 =>
if t43 = 0 then (
f_L_best_j192 z3 k77 v77 w101 w119 w138 w154 w173 0)
else (
f_L_best_j192 z3 k77 v77 w101 w119 w138 w154 w173 1)
def f_L_best_j154 (y : TV48s) (z3 : TV32s) (k77 : (Int32 × Int32) → Option (Int32)) (v77 : Int32 × Int32) (w101 : Int32) (w119 : Int32) (w138 : Int32) (w154 : Int32) : Option (Int32) :=
if (16 + v77.2) < 0 ∨ 48 ≤ (16 + v77.2).toNatClampNeg then none else
(f_L_weak (y (16 + v77.2).toNatClampNeg)).bind fun t40 =>
if t40 = 0 then (
f_L_best_j173 y z3 k77 v77 w101 w119 w138 w154 0)
else (
f_L_best_j173 y z3 k77 v77 w101 w119 w138 w154 1)
def f_L_best_j138 (y : TV48s) (z3 : TV32s) (k77 : (Int32 × Int32) → Option (Int32)) (v77 : Int32 × Int32) (w101 : Int32) (w119 : Int32) (w138 : Int32) : Option (Int32) :=
if v77.2 < 0 ∨ 48 ≤ (v77.2).toNatClampNeg then none else
(f_L_weak (y (v77.2).toNatClampNeg)).bind fun t37 =>
if t37 = 0 then (
f_L_best_j154 y z3 k77 v77 w101 w119 w138 0)
else (
f_L_best_j154 y z3 k77 v77 w101 w119 w138 1)
def f_L_best_j119 (x : TV48s) (y : TV48s) (z3 : TV32s) (k77 : (Int32 × Int32) → Option (Int32)) (v77 : Int32 × Int32) (w101 : Int32) (w119 : Int32) : Option (Int32) :=
if (32 + v77.2) < 0 ∨ 48 ≤ (32 + v77.2).toNatClampNeg then none else
(f_L_weak (x (32 + v77.2).toNatClampNeg)).bind fun t34 =>
if t34 = 0 then (
f_L_best_j138 y z3 k77 v77 w101 w119 0)
else (
f_L_best_j138 y z3 k77 v77 w101 w119 1)
def f_L_best_j101 (x : TV48s) (y : TV48s) (z3 : TV32s) (k77 : (Int32 × Int32) → Option (Int32)) (v77 : Int32 × Int32) (w101 : Int32) : Option (Int32) :=
if (16 + v77.2) < 0 ∨ 48 ≤ (16 + v77.2).toNatClampNeg then none else
(f_L_weak (x (16 + v77.2).toNatClampNeg)).bind fun t31 =>
if t31 = 0 then (
f_L_best_j119 x y z3 k77 v77 w101 0)
else (
f_L_best_j119 x y z3 k77 v77 w101 1)
def f_L_best_l77 (x : TV48s) (y : TV48s) (z3 : TV32s) (z4 : TV10s) (k10 : (Int32 × Int32 × Int32) → Option (Int32)) (v10 : Int32 × Int32 × Int32) (w52 : Int32) (w68 : Int32) (k77 : (Int32 × Int32) → Option (Int32)) (v77 : Int32 × Int32) : Option (Int32) :=
if w68 < v77.2 then (
if (1 : Int32) < 0 ∨ 10 ≤ (1 : Int32).toNatClampNeg then none else
if (z4 (1 : Int32).toNatClampNeg) ≤ v77.1 then (
if (1 : Int32) < 0 ∨ 10 ≤ (1 : Int32).toNatClampNeg then none else
f_L_best_j253 z4 k10 v10 w52 w68 (z4 (1 : Int32).toNatClampNeg))
else (
f_L_best_j253 z4 k10 v10 w52 w68 v77.1))
else (
if v77.2 < 0 ∨ 48 ≤ (v77.2).toNatClampNeg then none else
(f_L_weak (x (v77.2).toNatClampNeg)).bind fun t28 =>
if t28 = 0 then (
f_L_best_j101 x y z3 k77 v77 0)
else (
f_L_best_j101 x y z3 k77 v77 1))
def f_L_best_j68 (x : TV48s) (y : TV48s) (z3 : TV32s) (z4 : TV10s) (k10 : (Int32 × Int32 × Int32) → Option (Int32)) (v10 : Int32 × Int32 × Int32) (w52 : Int32) (w68 : Int32) : Option (Int32) :=
lpN (f_L_best_l77 x y z3 z4 k10 v10 w52 w68) 3000 (0, w52)
def f_L_best_j52 (x : TV48s) (y : TV48s) (z3 : TV32s) (z4 : TV10s) (k10 : (Int32 × Int32 × Int32) → Option (Int32)) (v10 : Int32 × Int32 × Int32) (w52 : Int32) : Option (Int32) :=
if (v10.2.2 - v10.2.2 / 16 * 16) ≤ (v10.2.2 / 16) then (
f_L_best_j68 x y z3 z4 k10 v10 w52 (v10.2.2 / 16))
else (
f_L_best_j68 x y z3 z4 k10 v10 w52 (v10.2.2 - v10.2.2 / 16 * 16))
def f_L_best_l10 (x : TV48s) (y : TV48s) (z3 : TV32s) (z4 : TV10s) (k10 : (Int32 × Int32 × Int32) → Option (Int32)) (v10 : Int32 × Int32 × Int32) : Option (Int32) :=
if 256 ≤ v10.2.2 then (
f_L_best_j366 z4 v10 ())
else (
if (5 : Int32) < 0 ∨ 10 ≤ (5 : Int32).toNatClampNeg then none else
if (z4 (5 : Int32).toNatClampNeg) ≤ 0 then (
f_L_best_j366 z4 v10 ())
else (
if (v10.2.2 - v10.2.2 / 16 * 16) ≤ (v10.2.2 / 16) then (
f_L_best_j52 x y z3 z4 k10 v10 (v10.2.2 - v10.2.2 / 16 * 16))
else (
f_L_best_j52 x y z3 z4 k10 v10 (v10.2.2 / 16))))
def f_L_best (x : TV48s) (y : TV48s) (z3 : TV32s) (z4 : TV10s) : Option (Int32) :=
lpN (f_L_best_l10 x y z3 z4) 3000 (0, (-6), 0)
theorem wo_L_best : wordsOk yL_best 4 := by decide +kernel
set_option maxHeartbeats 4000000 in
set_option maxRecDepth 100000 in
theorem c_L_best (l : Launch) (g : GG) (A : Nat → Nat) (b : Nat) (A2 : Nat → Nat) (b2 : Nat) (A3 : Nat → Nat) (b3 : Nat) (A4 : Nat → Nat) (b4 : Nat) (x : TV48s) (y : TV48s) (z3 : TV32s) (z4 : TV10s) (r : Int32) (h : f_L_best x y z3 z4 = some r) : CI l yL_best wsL_best 1 20 g [.ref (A b), .ref (A2 b2), .ref (A3 b3), .ref (A4 b4)] (wV48 g A b x ++ wV48 g A2 b2 y ++ wV32 g A3 b3 z3 ++ wV10 g A4 b4 z4) r (wV48 g A b x ++ wV48 g A2 b2 y ++ wV32 g A3 b3 z3 ++ wV10 g A4 b4 z4) := by
  refine CI.mk (own := RL) (by decide) rfl rfl (Nat.le_of_ble_eq_true rfl) ?_
  intro p e R s m args below meth c Z Q C E hR H hW ls hl
  have hx := C.1.1
  have hb := C.1.2.1
  have hown := C.1.2.2.2.1
  replace hW : WdG g Z s.heap H [] [[(A b, .inl (gI g, 48, .inl x))], [(A2 b2, .inl (gI g, 48, .inl y))], [(A3 b3, .inl (gI g, 32, .inl z3))], [(A4 b4, .inl (gI g, 10, .inl z4))]] := hW.re rfl
  replace hl : lv_has ls 13 [(0, .ref (A b)), (1, .ref (A2 b2)), (2, .ref (A3 b3)), (3, .ref (A4 b4))] := hl
  unfold f_L_best at h
  refine lv_iconst (v := 0) hx hb dL_best_0 (by decide) ?_
  refine lv_istore (lv' := [(4, .int 0), (0, .ref (A b)), (1, .ref (A2 b2)), (2, .ref (A3 b3)), (3, .ref (A4 b4))]) hx hb dL_best_1 hl (by decide) rfl (fun ls hl => ?_)
  refine lv_bipush (v := (-6)) hx hb dL_best_3 (by decide) ?_
  refine lv_istore (lv' := [(5, .int (-6)), (4, .int 0), (0, .ref (A b)), (1, .ref (A2 b2)), (2, .ref (A3 b3)), (3, .ref (A4 b4))]) hx hb dL_best_5 hl (by decide) rfl (fun ls hl => ?_)
  refine lv_iconst (v := 0) hx hb dL_best_7 (by decide) ?_
  refine lv_istore (lv' := [(6, .int 0), (5, .int (-6)), (4, .int 0), (0, .ref (A b)), (1, .ref (A2 b2)), (2, .ref (A3 b3)), (3, .ref (A4 b4))]) hx hb dL_best_8 hl (by decide) rfl (fun ls hl => ?_)
  have L10 : ∀ n10 : Nat, ∀ (v10 : Int32 × Int32 × Int32), lpN (f_L_best_l10 x y z3 z4) n10 v10 = some r → ∀ (H : Heap) (locs : List Loc), WdG g Z s.heap H locs [[(A b, .inl (gI g, 48, .inl x))], [(A2 b2, .inl (gI g, 48, .inl y))], [(A3 b3, .inl (gI g, 32, .inl z3))], [(A4 b4, .inl (gI g, 10, .inl z4))]] → ∀ ls : Array Slot, lv_has ls 13 [(0, .ref (A b)), (1, .ref (A2 b2)), (2, .ref (A3 b3)), (3, .ref (A4 b4)), (4, .int v10.1), (5, .int v10.2.1), (6, .int v10.2.2)] → W p l e R s m args below meth c H locs 0 0 Q (F0 m 10 ls []) := by
    intro n10
    induction n10 with
    | zero => intro v10 h; exact absurd (show none = some r from h) (fun h => by cases h)
    | succ n10 ih10 =>
      intro v10 h H locs hW ls hl
      replace h : f_L_best_l10 x y z3 z4 (lpN (f_L_best_l10 x y z3 z4) n10) v10 = some r := h
      unfold f_L_best_l10 at h
      refine lv_iload hx hb dL_best_10 (lv_at hl 6 rfl) ?_
      refine lv_sipush (v := 256) hx hb dL_best_12 (by decide) ?_
      have J366 : ∀ (w366 : Unit), f_L_best_j366 z4 v10 w366 = some r → ∀ (H : Heap) (locs : List Loc), WdG g Z s.heap H locs [[(A b, .inl (gI g, 48, .inl x))], [(A2 b2, .inl (gI g, 48, .inl y))], [(A3 b3, .inl (gI g, 32, .inl z3))], [(A4 b4, .inl (gI g, 10, .inl z4))]] → ∀ ls : Array Slot, lv_has ls 13 [(3, .ref (A4 b4)), (5, .int v10.2.1)] → W p l e R s m args below meth c H locs 0 0 Q (F0 m 366 ls []) := by
        intro w366 h H locs hW ls hl
        unfold f_L_best_j366 at h
        refine lv_aload_n hx hb dL_best_366 rfl (lv_at hl 0 rfl) ?_
        refine lv_iconst (v := 5) hx hb dL_best_367 (by decide) ?_
        obtain ⟨g1, h⟩ := q_g h
        refine r_iald C hW 3 0 rfl rfl g1 dL_best_368 ?_
        refine lv_if_ne (tgt := 377) hx hb dL_best_369 (by decide) (fun e2 => ?_) (fun e2 => ?_)
        · replace h := q_f e2 h
          refine lv_iload hx hb dL_best_377 (lv_at hl 1 rfl) ?_
          cases h
          exact E _ _ _ _ _ hW rfl rfl dL_best_379
        · replace h := q_t e2 h
          refine lv_bipush (v := (-3)) hx hb dL_best_372 (by decide) ?_
          refine lv_goto (tgt := 379) hx hb dL_best_374 (by decide) ?_
          cases h
          exact E _ _ _ _ _ hW rfl rfl dL_best_379
      refine lv_icmp_ge (tgt := 366) hx hb dL_best_15 (by decide) (fun e3 => ?_) (fun e3 => ?_)
      · replace h := q_t e3 h
        exact J366 () h _ _ hW _ (lv_sub hl [3, 5] rfl)
      · replace h := q_f e3 h
        refine lv_aload_n hx hb dL_best_18 rfl (lv_at hl 3 rfl) ?_
        refine lv_iconst (v := 5) hx hb dL_best_19 (by decide) ?_
        obtain ⟨g4, h⟩ := q_g h
        refine r_iald C hW 3 0 rfl rfl g4 dL_best_20 ?_
        refine lv_if_le (tgt := 366) hx hb dL_best_21 (by decide) (fun e5 => ?_) (fun e5 => ?_)
        · replace h := q_t e5 h
          exact J366 () h _ _ hW _ (lv_sub hl [3, 5] rfl)
        · replace h := q_f e5 h
          refine lv_iload hx hb dL_best_24 (lv_at hl 6 rfl) ?_
          refine lv_bipush (v := 16) hx hb dL_best_26 (by decide) ?_
          have g6 : ¬ (16 : Int32) = 0 := by decide
          refine lv_idiv hx hb dL_best_28 g6 ?_
          refine lv_istore (lv' := [(7, .int (v10.2.2 / 16)), (0, .ref (A b)), (1, .ref (A2 b2)), (2, .ref (A3 b3)), (3, .ref (A4 b4)), (4, .int v10.1), (5, .int v10.2.1), (6, .int v10.2.2)]) hx hb dL_best_29 hl (by decide) rfl (fun ls hl => ?_)
          refine lv_iload hx hb dL_best_31 (lv_at hl 7 rfl) ?_
          refine lv_bipush (v := 16) hx hb dL_best_33 (by decide) ?_
          have g7 : ¬ (16 : Int32) = 0 := by decide
          refine lv_irem hx hb dL_best_35 g7 ?_
          refine lv_istore (lv' := [(8, .int (v10.2.2 - v10.2.2 / 16 * 16)), (7, .int (v10.2.2 / 16)), (0, .ref (A b)), (1, .ref (A2 b2)), (2, .ref (A3 b3)), (3, .ref (A4 b4)), (4, .int v10.1), (5, .int v10.2.1), (6, .int v10.2.2)]) hx hb dL_best_36 hl (by decide) rfl (fun ls hl => ?_)
          refine lv_iload hx hb dL_best_38 (lv_at hl 1 rfl) ?_
          refine lv_iload hx hb dL_best_40 (lv_at hl 0 rfl) ?_
          have J52 : ∀ (w52 : Int32), f_L_best_j52 x y z3 z4 (lpN (f_L_best_l10 x y z3 z4) n10) v10 w52 = some r → ∀ (H : Heap) (locs : List Loc), WdG g Z s.heap H locs [[(A b, .inl (gI g, 48, .inl x))], [(A2 b2, .inl (gI g, 48, .inl y))], [(A3 b3, .inl (gI g, 32, .inl z3))], [(A4 b4, .inl (gI g, 10, .inl z4))]] → ∀ ls : Array Slot, lv_has ls 13 [(0, .ref (A b)), (1, .ref (A2 b2)), (2, .ref (A3 b3)), (3, .ref (A4 b4)), (4, .int v10.1), (5, .int v10.2.1), (6, .int v10.2.2), (7, .int (v10.2.2 / 16)), (8, .int (v10.2.2 - v10.2.2 / 16 * 16))] → W p l e R s m args below meth c H locs 0 0 Q (F0 m 52 ls [.int w52]) := by
            intro w52 h H locs hW ls hl
            unfold f_L_best_j52 at h
            refine lv_istore (lv' := [(9, .int w52), (0, .ref (A b)), (1, .ref (A2 b2)), (2, .ref (A3 b3)), (3, .ref (A4 b4)), (4, .int v10.1), (5, .int v10.2.1), (6, .int v10.2.2), (7, .int (v10.2.2 / 16)), (8, .int (v10.2.2 - v10.2.2 / 16 * 16))]) hx hb dL_best_52 hl (by decide) rfl (fun ls hl => ?_)
            refine lv_iload hx hb dL_best_54 (lv_at hl 8 rfl) ?_
            refine lv_iload hx hb dL_best_56 (lv_at hl 9 rfl) ?_
            have J68 : ∀ (w68 : Int32), f_L_best_j68 x y z3 z4 (lpN (f_L_best_l10 x y z3 z4) n10) v10 w52 w68 = some r → ∀ (H : Heap) (locs : List Loc), WdG g Z s.heap H locs [[(A b, .inl (gI g, 48, .inl x))], [(A2 b2, .inl (gI g, 48, .inl y))], [(A3 b3, .inl (gI g, 32, .inl z3))], [(A4 b4, .inl (gI g, 10, .inl z4))]] → ∀ ls : Array Slot, lv_has ls 13 [(0, .ref (A b)), (1, .ref (A2 b2)), (2, .ref (A3 b3)), (3, .ref (A4 b4)), (4, .int v10.1), (5, .int v10.2.1), (6, .int v10.2.2), (9, .int w52)] → W p l e R s m args below meth c H locs 0 0 Q (F0 m 68 ls [.int w68]) := by
              intro w68 h H locs hW ls hl
              unfold f_L_best_j68 at h
              refine lv_istore (lv' := [(10, .int w68), (0, .ref (A b)), (1, .ref (A2 b2)), (2, .ref (A3 b3)), (3, .ref (A4 b4)), (4, .int v10.1), (5, .int v10.2.1), (6, .int v10.2.2), (9, .int w52)]) hx hb dL_best_68 hl (by decide) rfl (fun ls hl => ?_)
              refine lv_iconst (v := 0) hx hb dL_best_70 (by decide) ?_
              refine lv_istore (lv' := [(11, .int 0), (10, .int w68), (0, .ref (A b)), (1, .ref (A2 b2)), (2, .ref (A3 b3)), (3, .ref (A4 b4)), (4, .int v10.1), (5, .int v10.2.1), (6, .int v10.2.2), (9, .int w52)]) hx hb dL_best_71 hl (by decide) rfl (fun ls hl => ?_)
              refine lv_iload hx hb dL_best_73 (lv_at hl 9 rfl) ?_
              refine lv_istore (lv' := [(12, .int w52), (11, .int 0), (10, .int w68), (0, .ref (A b)), (1, .ref (A2 b2)), (2, .ref (A3 b3)), (3, .ref (A4 b4)), (4, .int v10.1), (5, .int v10.2.1), (6, .int v10.2.2), (9, .int w52)]) hx hb dL_best_75 hl (by decide) rfl (fun ls hl => ?_)
              have L77 : ∀ n77 : Nat, ∀ (v77 : Int32 × Int32), lpN (f_L_best_l77 x y z3 z4 (lpN (f_L_best_l10 x y z3 z4) n10) v10 w52 w68) n77 v77 = some r → ∀ (H : Heap) (locs : List Loc), WdG g Z s.heap H locs [[(A b, .inl (gI g, 48, .inl x))], [(A2 b2, .inl (gI g, 48, .inl y))], [(A3 b3, .inl (gI g, 32, .inl z3))], [(A4 b4, .inl (gI g, 10, .inl z4))]] → ∀ ls : Array Slot, lv_has ls 13 [(0, .ref (A b)), (1, .ref (A2 b2)), (2, .ref (A3 b3)), (3, .ref (A4 b4)), (4, .int v10.1), (5, .int v10.2.1), (6, .int v10.2.2), (9, .int w52), (10, .int w68), (11, .int v77.1), (12, .int v77.2)] → W p l e R s m args below meth c H locs 0 0 Q (F0 m 77 ls []) := by
                intro n77
                induction n77 with
                | zero => intro v77 h; exact absurd (show none = some r from h) (fun h => by cases h)
                | succ n77 ih77 =>
                  intro v77 h H locs hW ls hl
                  replace h : f_L_best_l77 x y z3 z4 (lpN (f_L_best_l10 x y z3 z4) n10) v10 w52 w68 (lpN (f_L_best_l77 x y z3 z4 (lpN (f_L_best_l10 x y z3 z4) n10) v10 w52 w68) n77) v77 = some r := h
                  unfold f_L_best_l77 at h
                  refine lv_iload hx hb dL_best_77 (lv_at hl 10 rfl) ?_
                  refine lv_iload hx hb dL_best_79 (lv_at hl 8 rfl) ?_
                  refine lv_icmp_gt (tgt := 237) hx hb dL_best_81 (by decide) (fun e8 => ?_) (fun e8 => ?_)
                  · replace h := q_t e8 h
                    refine lv_iload hx hb dL_best_237 (lv_at hl 9 rfl) ?_
                    refine lv_aload_n hx hb dL_best_239 rfl (lv_at hl 3 rfl) ?_
                    refine lv_iconst (v := 1) hx hb dL_best_240 (by decide) ?_
                    obtain ⟨g9, h⟩ := q_g h
                    refine r_iald C hW 3 0 rfl rfl g9 dL_best_241 ?_
                    have J253 : ∀ (w253 : Int32), f_L_best_j253 z4 (lpN (f_L_best_l10 x y z3 z4) n10) v10 w52 w68 w253 = some r → ∀ (H : Heap) (locs : List Loc), WdG g Z s.heap H locs [[(A b, .inl (gI g, 48, .inl x))], [(A2 b2, .inl (gI g, 48, .inl y))], [(A3 b3, .inl (gI g, 32, .inl z3))], [(A4 b4, .inl (gI g, 10, .inl z4))]] → ∀ ls : Array Slot, lv_has ls 13 [(0, .ref (A b)), (1, .ref (A2 b2)), (2, .ref (A3 b3)), (3, .ref (A4 b4)), (4, .int v10.1), (5, .int v10.2.1), (6, .int v10.2.2), (9, .int w52), (10, .int w68)] → W p l e R s m args below meth c H locs 0 0 Q (F0 m 253 ls [.int w253]) := by
                      intro w253 h H locs hW ls hl
                      unfold f_L_best_j253 at h
                      refine lv_istore (lv' := [(11, .int w253), (0, .ref (A b)), (1, .ref (A2 b2)), (2, .ref (A3 b3)), (3, .ref (A4 b4)), (4, .int v10.1), (5, .int v10.2.1), (6, .int v10.2.2), (9, .int w52), (10, .int w68)]) hx hb dL_best_253 hl (by decide) rfl (fun ls hl => ?_)
                      refine lv_iload hx hb dL_best_255 (lv_at hl 0 rfl) ?_
                      refine lv_aload_n hx hb dL_best_257 rfl (lv_at hl 4 rfl) ?_
                      refine lv_iconst (v := 5) hx hb dL_best_258 (by decide) ?_
                      obtain ⟨g10, h⟩ := q_g h
                      refine r_iald C hW 3 0 rfl rfl g10 dL_best_259 ?_
                      have J271 : ∀ (w271 : Int32), f_L_best_j271 (lpN (f_L_best_l10 x y z3 z4) n10) v10 w52 w68 w271 = some r → ∀ (H : Heap) (locs : List Loc), WdG g Z s.heap H locs [[(A b, .inl (gI g, 48, .inl x))], [(A2 b2, .inl (gI g, 48, .inl y))], [(A3 b3, .inl (gI g, 32, .inl z3))], [(A4 b4, .inl (gI g, 10, .inl z4))]] → ∀ ls : Array Slot, lv_has ls 13 [(0, .ref (A b)), (1, .ref (A2 b2)), (2, .ref (A3 b3)), (3, .ref (A4 b4)), (4, .int v10.1), (5, .int v10.2.1), (6, .int v10.2.2), (9, .int w52), (10, .int w68)] → W p l e R s m args below meth c H locs 0 0 Q (F0 m 271 ls [.int w271]) := by
                        intro w271 h H locs hW ls hl
                        unfold f_L_best_j271 at h
                        refine lv_istore (lv' := [(11, .int w271), (0, .ref (A b)), (1, .ref (A2 b2)), (2, .ref (A3 b3)), (3, .ref (A4 b4)), (4, .int v10.1), (5, .int v10.2.1), (6, .int v10.2.2), (9, .int w52), (10, .int w68)]) hx hb dL_best_271 hl (by decide) rfl (fun ls hl => ?_)
                        refine lv_iload hx hb dL_best_273 (lv_at hl 6 rfl) ?_
                        have J321 : ∀ (w321 : Int32), f_L_best_j321 (lpN (f_L_best_l10 x y z3 z4) n10) v10 w52 w68 w271 w321 = some r → ∀ (H : Heap) (locs : List Loc), WdG g Z s.heap H locs [[(A b, .inl (gI g, 48, .inl x))], [(A2 b2, .inl (gI g, 48, .inl y))], [(A3 b3, .inl (gI g, 32, .inl z3))], [(A4 b4, .inl (gI g, 10, .inl z4))]] → ∀ ls : Array Slot, lv_has ls 13 [(0, .ref (A b)), (1, .ref (A2 b2)), (2, .ref (A3 b3)), (3, .ref (A4 b4)), (4, .int v10.1), (5, .int v10.2.1), (6, .int v10.2.2), (9, .int w52), (10, .int w68), (11, .int w271)] → W p l e R s m args below meth c H locs 0 0 Q (F0 m 321 ls [.int w321]) := by
                          intro w321 h H locs hW ls hl
                          unfold f_L_best_j321 at h
                          refine lv_istore (lv' := [(12, .int w321), (0, .ref (A b)), (1, .ref (A2 b2)), (2, .ref (A3 b3)), (3, .ref (A4 b4)), (4, .int v10.1), (5, .int v10.2.1), (6, .int v10.2.2), (9, .int w52), (10, .int w68), (11, .int w271)]) hx hb dL_best_321 hl (by decide) rfl (fun ls hl => ?_)
                          refine lv_iload hx hb dL_best_323 (lv_at hl 10 rfl) ?_
                          refine lv_iload hx hb dL_best_325 (lv_at hl 5 rfl) ?_
                          refine lv_icmp_gt (tgt := 352) hx hb dL_best_327 (by decide) (fun e11 => ?_) (fun e11 => ?_)
                          · replace h := q_t e11 h
                            refine lv_iload hx hb dL_best_352 (lv_at hl 10 rfl) ?_
                            refine lv_istore (lv' := [(4, .int w271), (12, .int w321), (0, .ref (A b)), (1, .ref (A2 b2)), (2, .ref (A3 b3)), (3, .ref (A4 b4)), (5, .int v10.2.1), (6, .int v10.2.2), (9, .int w52), (10, .int w68), (11, .int w271)]) hx hb dL_best_354 hl (by decide) rfl (fun ls hl => ?_)
                            refine lv_iload hx hb dL_best_356 (lv_at hl 7 rfl) ?_
                            refine lv_istore (lv' := [(5, .int v10.2.2), (4, .int w271), (12, .int w321), (0, .ref (A b)), (1, .ref (A2 b2)), (2, .ref (A3 b3)), (3, .ref (A4 b4)), (6, .int v10.2.2), (9, .int w52), (10, .int w68), (11, .int w271)]) hx hb dL_best_358 hl (by decide) rfl (fun ls hl => ?_)
                            refine lv_iinc (v := (v10.2.2 + 1)) (lv' := [(6, .int (v10.2.2 + 1)), (5, .int v10.2.2), (4, .int w271), (12, .int w321), (0, .ref (A b)), (1, .ref (A2 b2)), (2, .ref (A3 b3)), (3, .ref (A4 b4)), (9, .int w52), (10, .int w68), (11, .int w271)]) hx hb dL_best_360 hl (k := 7) rfl rfl (by decide) rfl (fun ls hl => ?_)
                            refine lv_goto (tgt := 10) hx hb dL_best_363 (by decide) ?_
                            exact ih10 (w271, v10.2.2, (v10.2.2 + 1)) h _ _ hW _ (lv_sub hl [4, 5, 6, 7, 2, 1, 0] rfl)
                          · replace h := q_f e11 h
                            refine lv_iload hx hb dL_best_330 (lv_at hl 10 rfl) ?_
                            refine lv_iload hx hb dL_best_332 (lv_at hl 5 rfl) ?_
                            refine lv_icmp_ne (tgt := 360) hx hb dL_best_334 (by decide) (fun e12 => ?_) (fun e12 => ?_)
                            · replace h := q_f e12 h
                              refine lv_iinc (v := (v10.2.2 + 1)) (lv' := [(6, .int (v10.2.2 + 1)), (12, .int w321), (0, .ref (A b)), (1, .ref (A2 b2)), (2, .ref (A3 b3)), (3, .ref (A4 b4)), (4, .int v10.1), (5, .int v10.2.1), (9, .int w52), (10, .int w68), (11, .int w271)]) hx hb dL_best_360 hl (k := 7) rfl rfl (by decide) rfl (fun ls hl => ?_)
                              refine lv_goto (tgt := 10) hx hb dL_best_363 (by decide) ?_
                              exact ih10 (v10.1, v10.2.1, (v10.2.2 + 1)) h _ _ hW _ (lv_sub hl [2, 3, 4, 5, 6, 7, 0] rfl)
                            · replace h := q_t e12 h
                              refine lv_iload hx hb dL_best_337 (lv_at hl 10 rfl) ?_
                              refine lv_if_le (tgt := 360) hx hb dL_best_339 (by decide) (fun e13 => ?_) (fun e13 => ?_)
                              · replace h := q_t e13 h
                                refine lv_iinc (v := (v10.2.2 + 1)) (lv' := [(6, .int (v10.2.2 + 1)), (12, .int w321), (0, .ref (A b)), (1, .ref (A2 b2)), (2, .ref (A3 b3)), (3, .ref (A4 b4)), (4, .int v10.1), (5, .int v10.2.1), (9, .int w52), (10, .int w68), (11, .int w271)]) hx hb dL_best_360 hl (k := 7) rfl rfl (by decide) rfl (fun ls hl => ?_)
                                refine lv_goto (tgt := 10) hx hb dL_best_363 (by decide) ?_
                                exact ih10 (v10.1, v10.2.1, (v10.2.2 + 1)) h _ _ hW _ (lv_sub hl [2, 3, 4, 5, 6, 7, 0] rfl)
                              · replace h := q_f e13 h
                                refine lv_iload hx hb dL_best_342 (lv_at hl 9 rfl) ?_
                                refine lv_iload hx hb dL_best_344 (lv_at hl 8 rfl) ?_
                                refine lv_isub hx hb dL_best_346 ?_
                                refine lv_iload hx hb dL_best_347 (lv_at hl 0 rfl) ?_
                                refine lv_icmp_ge (tgt := 360) hx hb dL_best_349 (by decide) (fun e14 => ?_) (fun e14 => ?_)
                                · replace h := q_t e14 h
                                  refine lv_iinc (v := (v10.2.2 + 1)) (lv' := [(6, .int (v10.2.2 + 1)), (12, .int w321), (0, .ref (A b)), (1, .ref (A2 b2)), (2, .ref (A3 b3)), (3, .ref (A4 b4)), (4, .int v10.1), (5, .int v10.2.1), (9, .int w52), (10, .int w68), (11, .int w271)]) hx hb dL_best_360 hl (k := 7) rfl rfl (by decide) rfl (fun ls hl => ?_)
                                  refine lv_goto (tgt := 10) hx hb dL_best_363 (by decide) ?_
                                  exact ih10 (v10.1, v10.2.1, (v10.2.2 + 1)) h _ _ hW _ (lv_sub hl [2, 3, 4, 5, 6, 7, 0] rfl)
                                · replace h := q_f e14 h
                                  refine lv_iload hx hb dL_best_352 (lv_at hl 10 rfl) ?_
                                  refine lv_istore (lv' := [(4, .int w271), (12, .int w321), (0, .ref (A b)), (1, .ref (A2 b2)), (2, .ref (A3 b3)), (3, .ref (A4 b4)), (5, .int v10.2.1), (6, .int v10.2.2), (9, .int w52), (10, .int w68), (11, .int w271)]) hx hb dL_best_354 hl (by decide) rfl (fun ls hl => ?_)
                                  refine lv_iload hx hb dL_best_356 (lv_at hl 7 rfl) ?_
                                  refine lv_istore (lv' := [(5, .int v10.2.2), (4, .int w271), (12, .int w321), (0, .ref (A b)), (1, .ref (A2 b2)), (2, .ref (A3 b3)), (3, .ref (A4 b4)), (6, .int v10.2.2), (9, .int w52), (10, .int w68), (11, .int w271)]) hx hb dL_best_358 hl (by decide) rfl (fun ls hl => ?_)
                                  refine lv_iinc (v := (v10.2.2 + 1)) (lv' := [(6, .int (v10.2.2 + 1)), (5, .int v10.2.2), (4, .int w271), (12, .int w321), (0, .ref (A b)), (1, .ref (A2 b2)), (2, .ref (A3 b3)), (3, .ref (A4 b4)), (9, .int w52), (10, .int w68), (11, .int w271)]) hx hb dL_best_360 hl (k := 7) rfl rfl (by decide) rfl (fun ls hl => ?_)
                                  refine lv_goto (tgt := 10) hx hb dL_best_363 (by decide) ?_
                                  exact ih10 (w271, v10.2.2, (v10.2.2 + 1)) h _ _ hW _ (lv_sub hl [4, 5, 6, 7, 2, 1, 0] rfl)
                        refine lv_if_ge (tgt := 283) hx hb dL_best_275 (by decide) (fun e15 => ?_) (fun e15 => ?_)
                        · replace h := q_t e15 h
                          refine lv_iload hx hb dL_best_283 (lv_at hl 6 rfl) ?_
                          refine lv_bipush (v := 16) hx hb dL_best_285 (by decide) ?_
                          have g16 : ¬ (16 : Int32) = 0 := by decide
                          refine lv_idiv hx hb dL_best_287 g16 ?_
                          refine lv_iload hx hb dL_best_288 (lv_at hl 6 rfl) ?_
                          refine lv_bipush (v := 16) hx hb dL_best_290 (by decide) ?_
                          have g17 : ¬ (16 : Int32) = 0 := by decide
                          refine lv_irem hx hb dL_best_292 g17 ?_
                          refine lv_icmp_ge (tgt := 310) hx hb dL_best_293 (by decide) (fun e18 => ?_) (fun e18 => ?_)
                          · replace h := q_t e18 h
                            refine lv_iload hx hb dL_best_310 (lv_at hl 6 rfl) ?_
                            refine lv_bipush (v := 16) hx hb dL_best_312 (by decide) ?_
                            have g19 : ¬ (16 : Int32) = 0 := by decide
                            refine lv_idiv hx hb dL_best_314 g19 ?_
                            refine lv_iload hx hb dL_best_315 (lv_at hl 6 rfl) ?_
                            refine lv_bipush (v := 16) hx hb dL_best_317 (by decide) ?_
                            have g20 : ¬ (16 : Int32) = 0 := by decide
                            refine lv_irem hx hb dL_best_319 g20 ?_
                            refine lv_isub hx hb dL_best_320 ?_
                            exact J321 ((v10.2.1 / 16) - (v10.2.1 - v10.2.1 / 16 * 16)) h _ _ hW _ (lv_sub hl [1, 2, 3, 4, 5, 6, 7, 8, 9, 0] rfl)
                          · replace h := q_f e18 h
                            refine lv_iload hx hb dL_best_296 (lv_at hl 6 rfl) ?_
                            refine lv_bipush (v := 16) hx hb dL_best_298 (by decide) ?_
                            have g21 : ¬ (16 : Int32) = 0 := by decide
                            refine lv_irem hx hb dL_best_300 g21 ?_
                            refine lv_iload hx hb dL_best_301 (lv_at hl 6 rfl) ?_
                            refine lv_bipush (v := 16) hx hb dL_best_303 (by decide) ?_
                            have g22 : ¬ (16 : Int32) = 0 := by decide
                            refine lv_idiv hx hb dL_best_305 g22 ?_
                            refine lv_isub hx hb dL_best_306 ?_
                            refine lv_goto (tgt := 321) hx hb dL_best_307 (by decide) ?_
                            exact J321 ((v10.2.1 - v10.2.1 / 16 * 16) - (v10.2.1 / 16)) h _ _ hW _ (lv_sub hl [1, 2, 3, 4, 5, 6, 7, 8, 9, 0] rfl)
                        · replace h := q_f e15 h
                          refine lv_bipush (v := 99) hx hb dL_best_278 (by decide) ?_
                          refine lv_goto (tgt := 321) hx hb dL_best_280 (by decide) ?_
                          exact J321 99 h _ _ hW _ (lv_sub hl [1, 2, 3, 4, 5, 6, 7, 8, 9, 0] rfl)
                      refine lv_icmp_ge (tgt := 268) hx hb dL_best_260 (by decide) (fun e23 => ?_) (fun e23 => ?_)
                      · replace h := q_t e23 h
                        refine lv_aload_n hx hb dL_best_268 rfl (lv_at hl 4 rfl) ?_
                        refine lv_iconst (v := 5) hx hb dL_best_269 (by decide) ?_
                        obtain ⟨g24, h⟩ := q_g h
                        refine r_iald C hW 3 0 rfl rfl g24 dL_best_270 ?_
                        exact J271 (z4 (5 : Int32).toNatClampNeg) h _ _ hW _ (lv_sub hl [1, 2, 3, 4, 5, 6, 7, 8, 9] rfl)
                      · replace h := q_f e23 h
                        refine lv_iload hx hb dL_best_263 (lv_at hl 0 rfl) ?_
                        refine lv_goto (tgt := 271) hx hb dL_best_265 (by decide) ?_
                        exact J271 w253 h _ _ hW _ (lv_sub hl [1, 2, 3, 4, 5, 6, 7, 8, 9] rfl)
                    refine lv_icmp_ge (tgt := 250) hx hb dL_best_242 (by decide) (fun e25 => ?_) (fun e25 => ?_)
                    · replace h := q_t e25 h
                      refine lv_aload_n hx hb dL_best_250 rfl (lv_at hl 3 rfl) ?_
                      refine lv_iconst (v := 1) hx hb dL_best_251 (by decide) ?_
                      obtain ⟨g26, h⟩ := q_g h
                      refine r_iald C hW 3 0 rfl rfl g26 dL_best_252 ?_
                      exact J253 (z4 (1 : Int32).toNatClampNeg) h _ _ hW _ (lv_sub hl [0, 1, 2, 3, 4, 5, 6, 7, 8] rfl)
                    · replace h := q_f e25 h
                      refine lv_iload hx hb dL_best_245 (lv_at hl 9 rfl) ?_
                      refine lv_goto (tgt := 253) hx hb dL_best_247 (by decide) ?_
                      exact J253 v77.1 h _ _ hW _ (lv_sub hl [0, 1, 2, 3, 4, 5, 6, 7, 8] rfl)
                  · replace h := q_f e8 h
                    refine lv_iload hx hb dL_best_84 (lv_at hl 9 rfl) ?_
                    refine lv_aload_n hx hb dL_best_86 rfl (lv_at hl 0 rfl) ?_
                    refine lv_iload hx hb dL_best_87 (lv_at hl 10 rfl) ?_
                    obtain ⟨g27, h⟩ := q_g h
                    refine r_iald C hW 0 0 rfl rfl g27 dL_best_89 ?_
                    obtain ⟨t28, h29, h⟩ := q_b h
                    refine r_cSi C hW (nA := 1) (As := [.int (x (v77.2).toNatClampNeg)]) (rest := [.int v77.1]) (c_L_weak l g (x (v77.2).toNatClampNeg) _ h29) gL_best_L_weak rfl wo_L_weak (rmk hR rfl rfl) rfl rfl hl.1 (Nat.le_of_ble_eq_true rfl) rz dL_best_90 (n := 4) (is := []) (rs := [0, 1, 2, 3]) (bs' := [[(A b, .inl (gI g, 48, .inl x))], [(A2 b2, .inl (gI g, 48, .inl y))], [(A3 b3, .inl (gI g, 32, .inl z3))], [(A4 b4, .inl (gI g, 10, .inl z4))]]) rfl rfl pm_656c4e9a rfl rfl rfl (fun H locs hW => ?_)
                    have J101 : ∀ (w101 : Int32), f_L_best_j101 x y z3 (lpN (f_L_best_l77 x y z3 z4 (lpN (f_L_best_l10 x y z3 z4) n10) v10 w52 w68) n77) v77 w101 = some r → ∀ (H : Heap) (locs : List Loc), WdG g Z s.heap H locs [[(A b, .inl (gI g, 48, .inl x))], [(A2 b2, .inl (gI g, 48, .inl y))], [(A3 b3, .inl (gI g, 32, .inl z3))], [(A4 b4, .inl (gI g, 10, .inl z4))]] → ∀ ls : Array Slot, lv_has ls 13 [(0, .ref (A b)), (1, .ref (A2 b2)), (2, .ref (A3 b3)), (3, .ref (A4 b4)), (4, .int v10.1), (5, .int v10.2.1), (6, .int v10.2.2), (9, .int w52), (10, .int w68), (12, .int v77.2)] → W p l e R s m args below meth c H locs 0 0 Q (F0 m 101 ls [.int w101, .int v77.1]) := by
                      intro w101 h H locs hW ls hl
                      unfold f_L_best_j101 at h
                      refine lv_aload_n hx hb dL_best_101 rfl (lv_at hl 0 rfl) ?_
                      refine lv_bipush (v := 16) hx hb dL_best_102 (by decide) ?_
                      refine lv_iload hx hb dL_best_104 (lv_at hl 9 rfl) ?_
                      refine lv_iadd hx hb dL_best_106 ?_
                      obtain ⟨g30, h⟩ := q_g h
                      refine r_iald C hW 0 0 rfl rfl g30 dL_best_107 ?_
                      obtain ⟨t31, h32, h⟩ := q_b h
                      refine r_cSi C hW (nA := 1) (As := [.int (x (16 + v77.2).toNatClampNeg)]) (rest := [.int w101, .int v77.1]) (c_L_weak l g (x (16 + v77.2).toNatClampNeg) _ h32) gL_best_L_weak rfl wo_L_weak (rmk hR rfl rfl) rfl rfl hl.1 (Nat.le_of_ble_eq_true rfl) rz dL_best_108 (n := 4) (is := []) (rs := [0, 1, 2, 3]) (bs' := [[(A b, .inl (gI g, 48, .inl x))], [(A2 b2, .inl (gI g, 48, .inl y))], [(A3 b3, .inl (gI g, 32, .inl z3))], [(A4 b4, .inl (gI g, 10, .inl z4))]]) rfl rfl pm_656c4e9a rfl rfl rfl (fun H locs hW => ?_)
                      have J119 : ∀ (w119 : Int32), f_L_best_j119 x y z3 (lpN (f_L_best_l77 x y z3 z4 (lpN (f_L_best_l10 x y z3 z4) n10) v10 w52 w68) n77) v77 w101 w119 = some r → ∀ (H : Heap) (locs : List Loc), WdG g Z s.heap H locs [[(A b, .inl (gI g, 48, .inl x))], [(A2 b2, .inl (gI g, 48, .inl y))], [(A3 b3, .inl (gI g, 32, .inl z3))], [(A4 b4, .inl (gI g, 10, .inl z4))]] → ∀ ls : Array Slot, lv_has ls 13 [(0, .ref (A b)), (1, .ref (A2 b2)), (2, .ref (A3 b3)), (3, .ref (A4 b4)), (4, .int v10.1), (5, .int v10.2.1), (6, .int v10.2.2), (9, .int w52), (10, .int w68), (12, .int v77.2)] → W p l e R s m args below meth c H locs 0 0 Q (F0 m 119 ls [.int w119, .int w101, .int v77.1]) := by
                        intro w119 h H locs hW ls hl
                        unfold f_L_best_j119 at h
                        refine lv_iadd hx hb dL_best_119 ?_
                        refine lv_aload_n hx hb dL_best_120 rfl (lv_at hl 0 rfl) ?_
                        refine lv_bipush (v := 32) hx hb dL_best_121 (by decide) ?_
                        refine lv_iload hx hb dL_best_123 (lv_at hl 9 rfl) ?_
                        refine lv_iadd hx hb dL_best_125 ?_
                        obtain ⟨g33, h⟩ := q_g h
                        refine r_iald C hW 0 0 rfl rfl g33 dL_best_126 ?_
                        obtain ⟨t34, h35, h⟩ := q_b h
                        refine r_cSi C hW (nA := 1) (As := [.int (x (32 + v77.2).toNatClampNeg)]) (rest := [.int (w101 + w119), .int v77.1]) (c_L_weak l g (x (32 + v77.2).toNatClampNeg) _ h35) gL_best_L_weak rfl wo_L_weak (rmk hR rfl rfl) rfl rfl hl.1 (Nat.le_of_ble_eq_true rfl) rz dL_best_127 (n := 4) (is := []) (rs := [0, 1, 2, 3]) (bs' := [[(A b, .inl (gI g, 48, .inl x))], [(A2 b2, .inl (gI g, 48, .inl y))], [(A3 b3, .inl (gI g, 32, .inl z3))], [(A4 b4, .inl (gI g, 10, .inl z4))]]) rfl rfl pm_656c4e9a rfl rfl rfl (fun H locs hW => ?_)
                        have J138 : ∀ (w138 : Int32), f_L_best_j138 y z3 (lpN (f_L_best_l77 x y z3 z4 (lpN (f_L_best_l10 x y z3 z4) n10) v10 w52 w68) n77) v77 w101 w119 w138 = some r → ∀ (H : Heap) (locs : List Loc), WdG g Z s.heap H locs [[(A b, .inl (gI g, 48, .inl x))], [(A2 b2, .inl (gI g, 48, .inl y))], [(A3 b3, .inl (gI g, 32, .inl z3))], [(A4 b4, .inl (gI g, 10, .inl z4))]] → ∀ ls : Array Slot, lv_has ls 13 [(0, .ref (A b)), (1, .ref (A2 b2)), (2, .ref (A3 b3)), (3, .ref (A4 b4)), (4, .int v10.1), (5, .int v10.2.1), (6, .int v10.2.2), (9, .int w52), (10, .int w68), (12, .int v77.2)] → W p l e R s m args below meth c H locs 0 0 Q (F0 m 138 ls [.int w138, .int (w101 + w119), .int v77.1]) := by
                          intro w138 h H locs hW ls hl
                          unfold f_L_best_j138 at h
                          refine lv_iadd hx hb dL_best_138 ?_
                          refine lv_aload_n hx hb dL_best_139 rfl (lv_at hl 1 rfl) ?_
                          refine lv_iload hx hb dL_best_140 (lv_at hl 9 rfl) ?_
                          obtain ⟨g36, h⟩ := q_g h
                          refine r_iald C hW 1 0 rfl rfl g36 dL_best_142 ?_
                          obtain ⟨t37, h38, h⟩ := q_b h
                          refine r_cSi C hW (nA := 1) (As := [.int (y (v77.2).toNatClampNeg)]) (rest := [.int ((w101 + w119) + w138), .int v77.1]) (c_L_weak l g (y (v77.2).toNatClampNeg) _ h38) gL_best_L_weak rfl wo_L_weak (rmk hR rfl rfl) rfl rfl hl.1 (Nat.le_of_ble_eq_true rfl) rz dL_best_143 (n := 4) (is := []) (rs := [0, 1, 2, 3]) (bs' := [[(A b, .inl (gI g, 48, .inl x))], [(A2 b2, .inl (gI g, 48, .inl y))], [(A3 b3, .inl (gI g, 32, .inl z3))], [(A4 b4, .inl (gI g, 10, .inl z4))]]) rfl rfl pm_656c4e9a rfl rfl rfl (fun H locs hW => ?_)
                          have J154 : ∀ (w154 : Int32), f_L_best_j154 y z3 (lpN (f_L_best_l77 x y z3 z4 (lpN (f_L_best_l10 x y z3 z4) n10) v10 w52 w68) n77) v77 w101 w119 w138 w154 = some r → ∀ (H : Heap) (locs : List Loc), WdG g Z s.heap H locs [[(A b, .inl (gI g, 48, .inl x))], [(A2 b2, .inl (gI g, 48, .inl y))], [(A3 b3, .inl (gI g, 32, .inl z3))], [(A4 b4, .inl (gI g, 10, .inl z4))]] → ∀ ls : Array Slot, lv_has ls 13 [(0, .ref (A b)), (1, .ref (A2 b2)), (2, .ref (A3 b3)), (3, .ref (A4 b4)), (4, .int v10.1), (5, .int v10.2.1), (6, .int v10.2.2), (9, .int w52), (10, .int w68), (12, .int v77.2)] → W p l e R s m args below meth c H locs 0 0 Q (F0 m 154 ls [.int w154, .int ((w101 + w119) + w138), .int v77.1]) := by
                            intro w154 h H locs hW ls hl
                            unfold f_L_best_j154 at h
                            refine lv_iadd hx hb dL_best_154 ?_
                            refine lv_aload_n hx hb dL_best_155 rfl (lv_at hl 1 rfl) ?_
                            refine lv_bipush (v := 16) hx hb dL_best_156 (by decide) ?_
                            refine lv_iload hx hb dL_best_158 (lv_at hl 9 rfl) ?_
                            refine lv_iadd hx hb dL_best_160 ?_
                            obtain ⟨g39, h⟩ := q_g h
                            refine r_iald C hW 1 0 rfl rfl g39 dL_best_161 ?_
                            obtain ⟨t40, h41, h⟩ := q_b h
                            refine r_cSi C hW (nA := 1) (As := [.int (y (16 + v77.2).toNatClampNeg)]) (rest := [.int (((w101 + w119) + w138) + w154), .int v77.1]) (c_L_weak l g (y (16 + v77.2).toNatClampNeg) _ h41) gL_best_L_weak rfl wo_L_weak (rmk hR rfl rfl) rfl rfl hl.1 (Nat.le_of_ble_eq_true rfl) rz dL_best_162 (n := 4) (is := []) (rs := [0, 1, 2, 3]) (bs' := [[(A b, .inl (gI g, 48, .inl x))], [(A2 b2, .inl (gI g, 48, .inl y))], [(A3 b3, .inl (gI g, 32, .inl z3))], [(A4 b4, .inl (gI g, 10, .inl z4))]]) rfl rfl pm_656c4e9a rfl rfl rfl (fun H locs hW => ?_)
                            have J173 : ∀ (w173 : Int32), f_L_best_j173 y z3 (lpN (f_L_best_l77 x y z3 z4 (lpN (f_L_best_l10 x y z3 z4) n10) v10 w52 w68) n77) v77 w101 w119 w138 w154 w173 = some r → ∀ (H : Heap) (locs : List Loc), WdG g Z s.heap H locs [[(A b, .inl (gI g, 48, .inl x))], [(A2 b2, .inl (gI g, 48, .inl y))], [(A3 b3, .inl (gI g, 32, .inl z3))], [(A4 b4, .inl (gI g, 10, .inl z4))]] → ∀ ls : Array Slot, lv_has ls 13 [(0, .ref (A b)), (1, .ref (A2 b2)), (2, .ref (A3 b3)), (3, .ref (A4 b4)), (4, .int v10.1), (5, .int v10.2.1), (6, .int v10.2.2), (9, .int w52), (10, .int w68), (12, .int v77.2)] → W p l e R s m args below meth c H locs 0 0 Q (F0 m 173 ls [.int w173, .int (((w101 + w119) + w138) + w154), .int v77.1]) := by
                              intro w173 h H locs hW ls hl
                              unfold f_L_best_j173 at h
                              refine lv_iadd hx hb dL_best_173 ?_
                              refine lv_aload_n hx hb dL_best_174 rfl (lv_at hl 1 rfl) ?_
                              refine lv_bipush (v := 32) hx hb dL_best_175 (by decide) ?_
                              refine lv_iload hx hb dL_best_177 (lv_at hl 9 rfl) ?_
                              refine lv_iadd hx hb dL_best_179 ?_
                              obtain ⟨g42, h⟩ := q_g h
                              refine r_iald C hW 1 0 rfl rfl g42 dL_best_180 ?_
                              obtain ⟨t43, h44, h⟩ := q_b h
                              refine r_cSi C hW (nA := 1) (As := [.int (y (32 + v77.2).toNatClampNeg)]) (rest := [.int ((((w101 + w119) + w138) + w154) + w173), .int v77.1]) (c_L_weak l g (y (32 + v77.2).toNatClampNeg) _ h44) gL_best_L_weak rfl wo_L_weak (rmk hR rfl rfl) rfl rfl hl.1 (Nat.le_of_ble_eq_true rfl) rz dL_best_181 (n := 4) (is := []) (rs := [0, 1, 2, 3]) (bs' := [[(A b, .inl (gI g, 48, .inl x))], [(A2 b2, .inl (gI g, 48, .inl y))], [(A3 b3, .inl (gI g, 32, .inl z3))], [(A4 b4, .inl (gI g, 10, .inl z4))]]) rfl rfl pm_656c4e9a rfl rfl rfl (fun H locs hW => ?_)
                              have J192 : ∀ (w192 : Int32), f_L_best_j192 z3 (lpN (f_L_best_l77 x y z3 z4 (lpN (f_L_best_l10 x y z3 z4) n10) v10 w52 w68) n77) v77 w101 w119 w138 w154 w173 w192 = some r → ∀ (H : Heap) (locs : List Loc), WdG g Z s.heap H locs [[(A b, .inl (gI g, 48, .inl x))], [(A2 b2, .inl (gI g, 48, .inl y))], [(A3 b3, .inl (gI g, 32, .inl z3))], [(A4 b4, .inl (gI g, 10, .inl z4))]] → ∀ ls : Array Slot, lv_has ls 13 [(0, .ref (A b)), (1, .ref (A2 b2)), (2, .ref (A3 b3)), (3, .ref (A4 b4)), (4, .int v10.1), (5, .int v10.2.1), (6, .int v10.2.2), (9, .int w52), (10, .int w68), (12, .int v77.2)] → W p l e R s m args below meth c H locs 0 0 Q (F0 m 192 ls [.int w192, .int ((((w101 + w119) + w138) + w154) + w173), .int v77.1]) := by
                                intro w192 h H locs hW ls hl
                                unfold f_L_best_j192 at h
                                refine lv_iadd hx hb dL_best_192 ?_
                                refine lv_aload_n hx hb dL_best_193 rfl (lv_at hl 2 rfl) ?_
                                refine lv_iload hx hb dL_best_194 (lv_at hl 9 rfl) ?_
                                obtain ⟨g45, h⟩ := q_g h
                                refine r_iald C hW 2 0 rfl rfl g45 dL_best_196 ?_
                                obtain ⟨t46, h47, h⟩ := q_b h
                                refine r_cSi C hW (nA := 1) (As := [.int (z3 (v77.2).toNatClampNeg)]) (rest := [.int (((((w101 + w119) + w138) + w154) + w173) + w192), .int v77.1]) (c_L_weak l g (z3 (v77.2).toNatClampNeg) _ h47) gL_best_L_weak rfl wo_L_weak (rmk hR rfl rfl) rfl rfl hl.1 (Nat.le_of_ble_eq_true rfl) rz dL_best_197 (n := 4) (is := []) (rs := [0, 1, 2, 3]) (bs' := [[(A b, .inl (gI g, 48, .inl x))], [(A2 b2, .inl (gI g, 48, .inl y))], [(A3 b3, .inl (gI g, 32, .inl z3))], [(A4 b4, .inl (gI g, 10, .inl z4))]]) rfl rfl pm_656c4e9a rfl rfl rfl (fun H locs hW => ?_)
                                have J208 : ∀ (w208 : Int32), f_L_best_j208 z3 (lpN (f_L_best_l77 x y z3 z4 (lpN (f_L_best_l10 x y z3 z4) n10) v10 w52 w68) n77) v77 w101 w119 w138 w154 w173 w192 w208 = some r → ∀ (H : Heap) (locs : List Loc), WdG g Z s.heap H locs [[(A b, .inl (gI g, 48, .inl x))], [(A2 b2, .inl (gI g, 48, .inl y))], [(A3 b3, .inl (gI g, 32, .inl z3))], [(A4 b4, .inl (gI g, 10, .inl z4))]] → ∀ ls : Array Slot, lv_has ls 13 [(0, .ref (A b)), (1, .ref (A2 b2)), (2, .ref (A3 b3)), (3, .ref (A4 b4)), (4, .int v10.1), (5, .int v10.2.1), (6, .int v10.2.2), (9, .int w52), (10, .int w68), (12, .int v77.2)] → W p l e R s m args below meth c H locs 0 0 Q (F0 m 208 ls [.int w208, .int (((((w101 + w119) + w138) + w154) + w173) + w192), .int v77.1]) := by
                                  intro w208 h H locs hW ls hl
                                  unfold f_L_best_j208 at h
                                  refine lv_iadd hx hb dL_best_208 ?_
                                  refine lv_aload_n hx hb dL_best_209 rfl (lv_at hl 2 rfl) ?_
                                  refine lv_bipush (v := 16) hx hb dL_best_210 (by decide) ?_
                                  refine lv_iload hx hb dL_best_212 (lv_at hl 9 rfl) ?_
                                  refine lv_iadd hx hb dL_best_214 ?_
                                  obtain ⟨g48, h⟩ := q_g h
                                  refine r_iald C hW 2 0 rfl rfl g48 dL_best_215 ?_
                                  obtain ⟨t49, h50, h⟩ := q_b h
                                  refine r_cSi C hW (nA := 1) (As := [.int (z3 (16 + v77.2).toNatClampNeg)]) (rest := [.int ((((((w101 + w119) + w138) + w154) + w173) + w192) + w208), .int v77.1]) (c_L_weak l g (z3 (16 + v77.2).toNatClampNeg) _ h50) gL_best_L_weak rfl wo_L_weak (rmk hR rfl rfl) rfl rfl hl.1 (Nat.le_of_ble_eq_true rfl) rz dL_best_216 (n := 4) (is := []) (rs := [0, 1, 2, 3]) (bs' := [[(A b, .inl (gI g, 48, .inl x))], [(A2 b2, .inl (gI g, 48, .inl y))], [(A3 b3, .inl (gI g, 32, .inl z3))], [(A4 b4, .inl (gI g, 10, .inl z4))]]) rfl rfl pm_656c4e9a rfl rfl rfl (fun H locs hW => ?_)
                                  refine lv_if_eq (tgt := 226) hx hb dL_best_219 (by decide) (fun e51 => ?_) (fun e51 => ?_)
                                  · replace h := q_t e51 h
                                    refine lv_iconst (v := 0) hx hb dL_best_226 (by decide) ?_
                                    refine lv_iadd hx hb dL_best_227 ?_
                                    refine lv_iadd hx hb dL_best_228 ?_
                                    refine lv_istore (lv' := [(11, .int (v77.1 + (((((((w101 + w119) + w138) + w154) + w173) + w192) + w208) + 0))), (0, .ref (A b)), (1, .ref (A2 b2)), (2, .ref (A3 b3)), (3, .ref (A4 b4)), (4, .int v10.1), (5, .int v10.2.1), (6, .int v10.2.2), (9, .int w52), (10, .int w68), (12, .int v77.2)]) hx hb dL_best_229 hl (by decide) rfl (fun ls hl => ?_)
                                    refine lv_iinc (v := (v77.2 + 1)) (lv' := [(12, .int (v77.2 + 1)), (11, .int (v77.1 + (((((((w101 + w119) + w138) + w154) + w173) + w192) + w208) + 0))), (0, .ref (A b)), (1, .ref (A2 b2)), (2, .ref (A3 b3)), (3, .ref (A4 b4)), (4, .int v10.1), (5, .int v10.2.1), (6, .int v10.2.2), (9, .int w52), (10, .int w68)]) hx hb dL_best_231 hl (k := 10) rfl rfl (by decide) rfl (fun ls hl => ?_)
                                    refine lv_goto (tgt := 77) hx hb dL_best_234 (by decide) ?_
                                    exact ih77 ((v77.1 + (((((((w101 + w119) + w138) + w154) + w173) + w192) + w208) + 0)), (v77.2 + 1)) h _ _ hW _ (lv_sub hl [2, 3, 4, 5, 6, 7, 8, 9, 10, 1, 0] rfl)
                                  · replace h := q_f e51 h
                                    refine lv_iconst (v := 1) hx hb dL_best_222 (by decide) ?_
                                    refine lv_goto (tgt := 227) hx hb dL_best_223 (by decide) ?_
                                    refine lv_iadd hx hb dL_best_227 ?_
                                    refine lv_iadd hx hb dL_best_228 ?_
                                    refine lv_istore (lv' := [(11, .int (v77.1 + (((((((w101 + w119) + w138) + w154) + w173) + w192) + w208) + 1))), (0, .ref (A b)), (1, .ref (A2 b2)), (2, .ref (A3 b3)), (3, .ref (A4 b4)), (4, .int v10.1), (5, .int v10.2.1), (6, .int v10.2.2), (9, .int w52), (10, .int w68), (12, .int v77.2)]) hx hb dL_best_229 hl (by decide) rfl (fun ls hl => ?_)
                                    refine lv_iinc (v := (v77.2 + 1)) (lv' := [(12, .int (v77.2 + 1)), (11, .int (v77.1 + (((((((w101 + w119) + w138) + w154) + w173) + w192) + w208) + 1))), (0, .ref (A b)), (1, .ref (A2 b2)), (2, .ref (A3 b3)), (3, .ref (A4 b4)), (4, .int v10.1), (5, .int v10.2.1), (6, .int v10.2.2), (9, .int w52), (10, .int w68)]) hx hb dL_best_231 hl (k := 10) rfl rfl (by decide) rfl (fun ls hl => ?_)
                                    refine lv_goto (tgt := 77) hx hb dL_best_234 (by decide) ?_
                                    exact ih77 ((v77.1 + (((((((w101 + w119) + w138) + w154) + w173) + w192) + w208) + 1)), (v77.2 + 1)) h _ _ hW _ (lv_sub hl [2, 3, 4, 5, 6, 7, 8, 9, 10, 1, 0] rfl)
                                refine lv_if_eq (tgt := 207) hx hb dL_best_200 (by decide) (fun e52 => ?_) (fun e52 => ?_)
                                · replace h := q_t e52 h
                                  refine lv_iconst (v := 0) hx hb dL_best_207 (by decide) ?_
                                  exact J208 0 h _ _ hW _ (lv_sub hl [0, 1, 2, 3, 4, 5, 6, 7, 8, 9] rfl)
                                · replace h := q_f e52 h
                                  refine lv_iconst (v := 1) hx hb dL_best_203 (by decide) ?_
                                  refine lv_goto (tgt := 208) hx hb dL_best_204 (by decide) ?_
                                  exact J208 1 h _ _ hW _ (lv_sub hl [0, 1, 2, 3, 4, 5, 6, 7, 8, 9] rfl)
                              refine lv_if_eq (tgt := 191) hx hb dL_best_184 (by decide) (fun e53 => ?_) (fun e53 => ?_)
                              · replace h := q_t e53 h
                                refine lv_iconst (v := 0) hx hb dL_best_191 (by decide) ?_
                                exact J192 0 h _ _ hW _ (lv_sub hl [0, 1, 2, 3, 4, 5, 6, 7, 8, 9] rfl)
                              · replace h := q_f e53 h
                                refine lv_iconst (v := 1) hx hb dL_best_187 (by decide) ?_
                                refine lv_goto (tgt := 192) hx hb dL_best_188 (by decide) ?_
                                exact J192 1 h _ _ hW _ (lv_sub hl [0, 1, 2, 3, 4, 5, 6, 7, 8, 9] rfl)
                            refine lv_if_eq (tgt := 172) hx hb dL_best_165 (by decide) (fun e54 => ?_) (fun e54 => ?_)
                            · replace h := q_t e54 h
                              refine lv_iconst (v := 0) hx hb dL_best_172 (by decide) ?_
                              exact J173 0 h _ _ hW _ (lv_sub hl [0, 1, 2, 3, 4, 5, 6, 7, 8, 9] rfl)
                            · replace h := q_f e54 h
                              refine lv_iconst (v := 1) hx hb dL_best_168 (by decide) ?_
                              refine lv_goto (tgt := 173) hx hb dL_best_169 (by decide) ?_
                              exact J173 1 h _ _ hW _ (lv_sub hl [0, 1, 2, 3, 4, 5, 6, 7, 8, 9] rfl)
                          refine lv_if_eq (tgt := 153) hx hb dL_best_146 (by decide) (fun e55 => ?_) (fun e55 => ?_)
                          · replace h := q_t e55 h
                            refine lv_iconst (v := 0) hx hb dL_best_153 (by decide) ?_
                            exact J154 0 h _ _ hW _ (lv_sub hl [0, 1, 2, 3, 4, 5, 6, 7, 8, 9] rfl)
                          · replace h := q_f e55 h
                            refine lv_iconst (v := 1) hx hb dL_best_149 (by decide) ?_
                            refine lv_goto (tgt := 154) hx hb dL_best_150 (by decide) ?_
                            exact J154 1 h _ _ hW _ (lv_sub hl [0, 1, 2, 3, 4, 5, 6, 7, 8, 9] rfl)
                        refine lv_if_eq (tgt := 137) hx hb dL_best_130 (by decide) (fun e56 => ?_) (fun e56 => ?_)
                        · replace h := q_t e56 h
                          refine lv_iconst (v := 0) hx hb dL_best_137 (by decide) ?_
                          exact J138 0 h _ _ hW _ (lv_sub hl [0, 1, 2, 3, 4, 5, 6, 7, 8, 9] rfl)
                        · replace h := q_f e56 h
                          refine lv_iconst (v := 1) hx hb dL_best_133 (by decide) ?_
                          refine lv_goto (tgt := 138) hx hb dL_best_134 (by decide) ?_
                          exact J138 1 h _ _ hW _ (lv_sub hl [0, 1, 2, 3, 4, 5, 6, 7, 8, 9] rfl)
                      refine lv_if_eq (tgt := 118) hx hb dL_best_111 (by decide) (fun e57 => ?_) (fun e57 => ?_)
                      · replace h := q_t e57 h
                        refine lv_iconst (v := 0) hx hb dL_best_118 (by decide) ?_
                        exact J119 0 h _ _ hW _ (lv_sub hl [0, 1, 2, 3, 4, 5, 6, 7, 8, 9] rfl)
                      · replace h := q_f e57 h
                        refine lv_iconst (v := 1) hx hb dL_best_114 (by decide) ?_
                        refine lv_goto (tgt := 119) hx hb dL_best_115 (by decide) ?_
                        exact J119 1 h _ _ hW _ (lv_sub hl [0, 1, 2, 3, 4, 5, 6, 7, 8, 9] rfl)
                    refine lv_if_eq (tgt := 100) hx hb dL_best_93 (by decide) (fun e58 => ?_) (fun e58 => ?_)
                    · replace h := q_t e58 h
                      refine lv_iconst (v := 0) hx hb dL_best_100 (by decide) ?_
                      exact J101 0 h _ _ hW _ (lv_sub hl [0, 1, 2, 3, 4, 5, 6, 7, 8, 10] rfl)
                    · replace h := q_f e58 h
                      refine lv_iconst (v := 1) hx hb dL_best_96 (by decide) ?_
                      refine lv_goto (tgt := 101) hx hb dL_best_97 (by decide) ?_
                      exact J101 1 h _ _ hW _ (lv_sub hl [0, 1, 2, 3, 4, 5, 6, 7, 8, 10] rfl)
              exact L77 3000 (0, w52) h _ _ hW _ (lv_sub hl [3, 4, 5, 6, 7, 8, 9, 10, 2, 1, 0] rfl)
            refine lv_icmp_ge (tgt := 66) hx hb dL_best_58 (by decide) (fun e59 => ?_) (fun e59 => ?_)
            · replace h := q_t e59 h
              refine lv_iload hx hb dL_best_66 (lv_at hl 8 rfl) ?_
              exact J68 (v10.2.2 / 16) h _ _ hW _ (lv_sub hl [1, 2, 3, 4, 5, 6, 7, 0] rfl)
            · replace h := q_f e59 h
              refine lv_iload hx hb dL_best_61 (lv_at hl 9 rfl) ?_
              refine lv_goto (tgt := 68) hx hb dL_best_63 (by decide) ?_
              exact J68 (v10.2.2 - v10.2.2 / 16 * 16) h _ _ hW _ (lv_sub hl [1, 2, 3, 4, 5, 6, 7, 0] rfl)
          refine lv_icmp_ge (tgt := 50) hx hb dL_best_42 (by decide) (fun e60 => ?_) (fun e60 => ?_)
          · replace h := q_t e60 h
            refine lv_iload hx hb dL_best_50 (lv_at hl 0 rfl) ?_
            exact J52 (v10.2.2 - v10.2.2 / 16 * 16) h _ _ hW _ (lv_sub hl [2, 3, 4, 5, 6, 7, 8, 1, 0] rfl)
          · replace h := q_f e60 h
            refine lv_iload hx hb dL_best_45 (lv_at hl 1 rfl) ?_
            refine lv_goto (tgt := 52) hx hb dL_best_47 (by decide) ?_
            exact J52 (v10.2.2 / 16) h _ _ hW _ (lv_sub hl [2, 3, 4, 5, 6, 7, 8, 1, 0] rfl)
  exact L10 3000 (0, (-6), 0) h _ _ hW _ (lv_sub hl [3, 4, 5, 6, 2, 1, 0] rfl)
