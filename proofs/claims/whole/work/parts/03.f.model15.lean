def f_X6_readOrder_j158 (w158 : TX6s) : Option (TX6s) :=
some (w158.1, w158.2.1, w158.2.2.1, w158.2.2.2.1, w158.2.2.2.2.1, w158.2.2.2.2.2.1, w158.2.2.2.2.2.2.1, w158.2.2.2.2.2.2.2.1, w158.2.2.2.2.2.2.2.2.1, (w158.2.2.2.2.2.2.2.2.2.1 + 1), w158.2.2.2.2.2.2.2.2.2.2.1, w158.2.2.2.2.2.2.2.2.2.2.2)
def f_X6_readOrder_j157 (t3 : TX6s) (w157 : Int32 × TX6s) : Option (TX6s) :=
if ((4 * t3.2.2.2.2.2.2.2.2.2.1) + 3) < 0 ∨ 144 ≤ ((4 * t3.2.2.2.2.2.2.2.2.2.1) + 3).toNatClampNeg then none else
f_X6_readOrder_j158 (w157.2.1, w157.2.2.1, w157.2.2.2.1, w157.2.2.2.2.1, w157.2.2.2.2.2.1, w157.2.2.2.2.2.2.1, w157.2.2.2.2.2.2.2.1, w157.2.2.2.2.2.2.2.2.1, (upd w157.2.2.2.2.2.2.2.2.2.1 ((4 * t3.2.2.2.2.2.2.2.2.2.1) + 3).toNatClampNeg w157.1), w157.2.2.2.2.2.2.2.2.2.2.1, w157.2.2.2.2.2.2.2.2.2.2.2.1, w157.2.2.2.2.2.2.2.2.2.2.2.2)
def f_X6_readOrder_j116 (t1 : Int32) (t3 : TX6s) (w116 : Int32) : Option (TX6s) :=
(f_X6_figure (t3.1, t3.2.1, t3.2.2.1, t3.2.2.2.1, t3.2.2.2.2.1, t3.2.2.2.2.2.1, t3.2.2.2.2.2.2.1, t3.2.2.2.2.2.2.2.1, (upd t3.2.2.2.2.2.2.2.2.1 (4 * t3.2.2.2.2.2.2.2.2.2.1).toNatClampNeg t1), t3.2.2.2.2.2.2.2.2.2.1, t3.2.2.2.2.2.2.2.2.2.2.1, t3.2.2.2.2.2.2.2.2.2.2.2) w116).bind fun t8 =>
if ((4 * t3.2.2.2.2.2.2.2.2.2.1) + 1) < 0 ∨ 144 ≤ ((4 * t3.2.2.2.2.2.2.2.2.2.1) + 1).toNatClampNeg then none else
(f_X6_mile (t8.2.1, t8.2.2.1, t8.2.2.2.1, t8.2.2.2.2.1, t8.2.2.2.2.2.1, t8.2.2.2.2.2.2.1, t8.2.2.2.2.2.2.2.1, t8.2.2.2.2.2.2.2.2.1, (upd t8.2.2.2.2.2.2.2.2.2.1 ((4 * t3.2.2.2.2.2.2.2.2.2.1) + 1).toNatClampNeg t8.1), t8.2.2.2.2.2.2.2.2.2.2.1, t8.2.2.2.2.2.2.2.2.2.2.2.1, t8.2.2.2.2.2.2.2.2.2.2.2.2)).bind fun t11 =>
if ((4 * t3.2.2.2.2.2.2.2.2.2.1) + 2) < 0 ∨ 144 ≤ ((4 * t3.2.2.2.2.2.2.2.2.2.1) + 2).toNatClampNeg then none else
if t1 = 97 then (
(f_X6_way (t11.2.1, t11.2.2.1, t11.2.2.2.1, t11.2.2.2.2.1, t11.2.2.2.2.2.1, t11.2.2.2.2.2.2.1, t11.2.2.2.2.2.2.2.1, t11.2.2.2.2.2.2.2.2.1, (upd t11.2.2.2.2.2.2.2.2.2.1 ((4 * t3.2.2.2.2.2.2.2.2.2.1) + 2).toNatClampNeg t11.1), t11.2.2.2.2.2.2.2.2.2.2.1, t11.2.2.2.2.2.2.2.2.2.2.2.1, t11.2.2.2.2.2.2.2.2.2.2.2.2)).bind fun t18 =>
f_X6_readOrder_j157 t3 (t18.1, t18.2))
else (
(f_X6_figure (t11.2.1, t11.2.2.1, t11.2.2.2.1, t11.2.2.2.2.1, t11.2.2.2.2.2.1, t11.2.2.2.2.2.2.1, t11.2.2.2.2.2.2.2.1, t11.2.2.2.2.2.2.2.2.1, (upd t11.2.2.2.2.2.2.2.2.2.1 ((4 * t3.2.2.2.2.2.2.2.2.2.1) + 2).toNatClampNeg t11.1), t11.2.2.2.2.2.2.2.2.2.2.1, t11.2.2.2.2.2.2.2.2.2.2.2.1, t11.2.2.2.2.2.2.2.2.2.2.2.2) 3).bind fun t16 =>
f_X6_readOrder_j157 t3 (t16.1, t16.2))
def f_X6_readOrder_j41 (x : TX6s) (t1 : Int32) (w41 : Int32) : Option (TX6s) :=
(f_X6_wants x w41).bind fun t3 =>
if (4 * t3.2.2.2.2.2.2.2.2.2.1) < 0 ∨ 144 ≤ (4 * t3.2.2.2.2.2.2.2.2.2.1).toNatClampNeg then none else
if t1 = 110 then (
(f_X6_mile (t3.1, t3.2.1, t3.2.2.1, t3.2.2.2.1, t3.2.2.2.2.1, t3.2.2.2.2.2.1, t3.2.2.2.2.2.2.1, t3.2.2.2.2.2.2.2.1, (upd t3.2.2.2.2.2.2.2.2.1 (4 * t3.2.2.2.2.2.2.2.2.2.1).toNatClampNeg t1), t3.2.2.2.2.2.2.2.2.2.1, t3.2.2.2.2.2.2.2.2.2.2.1, t3.2.2.2.2.2.2.2.2.2.2.2)).bind fun t21 =>
if ((4 * t3.2.2.2.2.2.2.2.2.2.1) + 1) < 0 ∨ 144 ≤ ((4 * t3.2.2.2.2.2.2.2.2.2.1) + 1).toNatClampNeg then none else
(f_X6_mile (t21.2.1, t21.2.2.1, t21.2.2.2.1, t21.2.2.2.2.1, t21.2.2.2.2.2.1, t21.2.2.2.2.2.2.1, t21.2.2.2.2.2.2.2.1, t21.2.2.2.2.2.2.2.2.1, (upd t21.2.2.2.2.2.2.2.2.2.1 ((4 * t3.2.2.2.2.2.2.2.2.2.1) + 1).toNatClampNeg t21.1), t21.2.2.2.2.2.2.2.2.2.2.1, t21.2.2.2.2.2.2.2.2.2.2.2.1, t21.2.2.2.2.2.2.2.2.2.2.2.2)).bind fun t24 =>
if ((4 * t3.2.2.2.2.2.2.2.2.2.1) + 2) < 0 ∨ 144 ≤ ((4 * t3.2.2.2.2.2.2.2.2.2.1) + 2).toNatClampNeg then none else
f_X6_readOrder_j158 (t24.2.1, t24.2.2.1, t24.2.2.2.1, t24.2.2.2.2.1, t24.2.2.2.2.2.1, t24.2.2.2.2.2.2.1, t24.2.2.2.2.2.2.2.1, t24.2.2.2.2.2.2.2.2.1, (upd t24.2.2.2.2.2.2.2.2.2.1 ((4 * t3.2.2.2.2.2.2.2.2.2.1) + 2).toNatClampNeg t24.1), t24.2.2.2.2.2.2.2.2.2.2.1, t24.2.2.2.2.2.2.2.2.2.2.2.1, t24.2.2.2.2.2.2.2.2.2.2.2.2))
else (
if t1 = 100 then (
f_X6_readOrder_j158 (t3.1, t3.2.1, t3.2.2.1, t3.2.2.2.1, t3.2.2.2.2.1, t3.2.2.2.2.2.1, t3.2.2.2.2.2.2.1, t3.2.2.2.2.2.2.2.1, (upd t3.2.2.2.2.2.2.2.2.1 (4 * t3.2.2.2.2.2.2.2.2.2.1).toNatClampNeg t1), t3.2.2.2.2.2.2.2.2.2.1, t3.2.2.2.2.2.2.2.2.2.2.1, t3.2.2.2.2.2.2.2.2.2.2.2))
else (
if t1 = 108 then (
f_X6_readOrder_j116 t1 t3 1)
else (
f_X6_readOrder_j116 t1 t3 2)))
def f_X6_readOrder_j36 (x : TX6s) (t1 : Int32) (w36 : Unit) : Option (TX6s) :=
f_X6_readOrder_j41 x t1 1
def f_X6_readOrder (x : TX6s) : Option (TX6s) :=
(f_X6_letter x).bind fun t1 =>
if t1 = 97 then (
f_X6_readOrder_j36 x t1 ())
else (
if t1 = 119 then (
f_X6_readOrder_j36 x t1 ())
else (
if t1 = 108 then (
f_X6_readOrder_j36 x t1 ())
else (
if t1 = 110 then (
f_X6_readOrder_j36 x t1 ())
else (
if t1 = 100 then (
f_X6_readOrder_j36 x t1 ())
else (
f_X6_readOrder_j41 x t1 0)))))
theorem wo_X6_readOrder : wordsOk yX6_readOrder 0 := by decide +kernel
theorem inX6_readOrder_X6 : ∀ w ∈ wsX60, w ∈ wsX6_readOrder := fun _ h => List.mem_cons_of_mem _ (List.mem_append_right _ h)
set_option maxHeartbeats 4000000 in
set_option maxRecDepth 100000 in
theorem c_X6_readOrder (l : Launch) (g : GG) (A : Nat → Nat) (b : Nat) (x : TX6s) (x' : TX6s) (h : f_X6_readOrder x = some x') : CV l yX6_readOrder wsX6_readOrder 2 44 g [.ref (A b)] (wX6 g A b x) (wX6 g A b x') := by
  refine CV.mk (own := RX6) (by decide) rfl rfl (Nat.le_of_ble_eq_true rfl) ?_
  intro p e R s m args below meth c Z Q C E hR H hW ls hl
  have hx := C.1.1
  have hb := C.1.2.1
  have hown := C.1.2.2.2.1
  replace hW : WdG g Z s.heap H [] [[(A b, .inr (6, [.ref (A (b + 1)), .ref (A (b + 2)), .int x.2.2.1, .ref (A (b + 3)), .int x.2.2.2.2.1, .ref (A (b + 4)), .int x.2.2.2.2.2.2.1, .ref (A (b + 5)), .ref (A (b + 6)), .int x.2.2.2.2.2.2.2.2.2.1, .int x.2.2.2.2.2.2.2.2.2.2.1, .int x.2.2.2.2.2.2.2.2.2.2.2]))], [(A (b + 1), .inl (gI g, 268, .inl x.1))], [(A (b + 2), .inl (gI g, 1340, .inl x.2.1))], [(A (b + 3), .inl (gI g, 268, .inl x.2.2.2.1))], [(A (b + 4), .inl (gC g, 70, .inl x.2.2.2.2.2.1))], [(A (b + 5), .inl (gI g, 3, .inl x.2.2.2.2.2.2.2.1))], [(A (b + 6), .inl (gI g, 144, .inl x.2.2.2.2.2.2.2.2.1))]] := hW.re rfl
  replace hl : lv_has ls 3 [(0, .ref (A b))] := hl
  unfold f_X6_readOrder at h
  refine lv_aload_n hx hb dX6_readOrder_0 rfl (lv_at hl 0 rfl) ?_
  obtain ⟨t1, h2, h⟩ := q_b h
  refine r_cVi C hW (nA := 0) (As := []) (rest := []) (c_X6_letter l g A b x _ h2) gX6_readOrder_X6_letter rfl ⟨rfl, wo_X6_letter⟩ (rmk hR rfl rfl) rfl rfl rfl rfl hl.1 (Nat.le_of_ble_eq_true rfl) rz dX6_readOrder_1 (n := 7) (is := [0, 1, 2, 3, 4, 5, 6]) (rs := []) (bs' := [[(A b, .inr (6, [.ref (A (b + 1)), .ref (A (b + 2)), .int x.2.2.1, .ref (A (b + 3)), .int x.2.2.2.2.1, .ref (A (b + 4)), .int x.2.2.2.2.2.2.1, .ref (A (b + 5)), .ref (A (b + 6)), .int x.2.2.2.2.2.2.2.2.2.1, .int x.2.2.2.2.2.2.2.2.2.2.1, .int x.2.2.2.2.2.2.2.2.2.2.2]))], [(A (b + 1), .inl (gI g, 268, .inl x.1))], [(A (b + 2), .inl (gI g, 1340, .inl x.2.1))], [(A (b + 3), .inl (gI g, 268, .inl x.2.2.2.1))], [(A (b + 4), .inl (gC g, 70, .inl x.2.2.2.2.2.1))], [(A (b + 5), .inl (gI g, 3, .inl x.2.2.2.2.2.2.2.1))], [(A (b + 6), .inl (gI g, 144, .inl x.2.2.2.2.2.2.2.2.1))]]) rfl rfl pm_39 rfl rfl rfl (fun H locs hW => ?_)
  refine lv_istore_n (lv' := [(1, .int t1), (0, .ref (A b))]) hx hb dX6_readOrder_4 rfl hl (by decide) rfl (fun ls hl => ?_)
  refine lv_aload_n hx hb dX6_readOrder_5 rfl (lv_at hl 1 rfl) ?_
  refine lv_iload_n hx hb dX6_readOrder_6 rfl (lv_at hl 0 rfl) ?_
  refine lv_bipush (v := 97) hx hb dX6_readOrder_7 (by decide) ?_
  have J41 : ∀ (w41 : Int32), f_X6_readOrder_j41 x t1 w41 = some x' → ∀ (H : Heap) (locs : List Loc), WdG g Z s.heap H locs [[(A b, .inr (6, [.ref (A (b + 1)), .ref (A (b + 2)), .int x.2.2.1, .ref (A (b + 3)), .int x.2.2.2.2.1, .ref (A (b + 4)), .int x.2.2.2.2.2.2.1, .ref (A (b + 5)), .ref (A (b + 6)), .int x.2.2.2.2.2.2.2.2.2.1, .int x.2.2.2.2.2.2.2.2.2.2.1, .int x.2.2.2.2.2.2.2.2.2.2.2]))], [(A (b + 1), .inl (gI g, 268, .inl x.1))], [(A (b + 2), .inl (gI g, 1340, .inl x.2.1))], [(A (b + 3), .inl (gI g, 268, .inl x.2.2.2.1))], [(A (b + 4), .inl (gC g, 70, .inl x.2.2.2.2.2.1))], [(A (b + 5), .inl (gI g, 3, .inl x.2.2.2.2.2.2.2.1))], [(A (b + 6), .inl (gI g, 144, .inl x.2.2.2.2.2.2.2.2.1))]] → ∀ ls : Array Slot, lv_has ls 3 [(0, .ref (A b)), (1, .int t1)] → W p l e R s m args below meth c H locs 0 0 Q (F0 m 41 ls [.int w41, .ref (A b)]) := by
    intro w41 h H locs hW ls hl
    unfold f_X6_readOrder_j41 at h
    obtain ⟨t3, h4, h⟩ := q_b h
    refine r_cVv C hW (nA := 1) (As := [.int w41]) (rest := []) (c_X6_wants l g A b x w41 _ h4) gX6_readOrder_X6_wants rfl ⟨rfl, wo_X6_wants⟩ (rmk hR rfl rfl) rfl rfl rfl rfl hl.1 (Nat.le_of_ble_eq_true rfl) rz dX6_readOrder_41 (n := 7) (is := [0, 1, 2, 3, 4, 5, 6]) (rs := []) (bs' := [[(A b, .inr (6, [.ref (A (b + 1)), .ref (A (b + 2)), .int t3.2.2.1, .ref (A (b + 3)), .int t3.2.2.2.2.1, .ref (A (b + 4)), .int t3.2.2.2.2.2.2.1, .ref (A (b + 5)), .ref (A (b + 6)), .int t3.2.2.2.2.2.2.2.2.2.1, .int t3.2.2.2.2.2.2.2.2.2.2.1, .int t3.2.2.2.2.2.2.2.2.2.2.2]))], [(A (b + 1), .inl (gI g, 268, .inl t3.1))], [(A (b + 2), .inl (gI g, 1340, .inl t3.2.1))], [(A (b + 3), .inl (gI g, 268, .inl t3.2.2.2.1))], [(A (b + 4), .inl (gC g, 70, .inl t3.2.2.2.2.2.1))], [(A (b + 5), .inl (gI g, 3, .inl t3.2.2.2.2.2.2.2.1))], [(A (b + 6), .inl (gI g, 144, .inl t3.2.2.2.2.2.2.2.2.1))]]) rfl rfl pm_39 rfl rfl rfl (fun H locs hW => ?_)
    refine lv_iconst (v := 4) hx hb dX6_readOrder_44 (by decide) ?_
    refine lv_aload_n hx hb dX6_readOrder_45 rfl (lv_at hl 0 rfl) ?_
    refine r_get C hW (K := RX6) (T := TX6) (N := 12) (v := .int t3.2.2.2.2.2.2.2.2.2.1) 0 0 9 rfl rfl rfl inX6_readOrder_X6 (by decide) (List.mem_of_getElem? (i := 1) rfl) rfl rfl dX6_readOrder_46 ?_
    refine lv_imul hx hb dX6_readOrder_49 ?_
    refine lv_istore_n (lv' := [(2, .int (4 * t3.2.2.2.2.2.2.2.2.2.1)), (0, .ref (A b)), (1, .int t1)]) hx hb dX6_readOrder_50 rfl hl (by decide) rfl (fun ls hl => ?_)
    refine lv_aload_n hx hb dX6_readOrder_51 rfl (lv_at hl 1 rfl) ?_
    refine r_get C hW (K := RX6) (T := TX6) (N := 12) (v := .ref (A (b + 6))) 0 0 8 rfl rfl rfl inX6_readOrder_X6 (by decide) (List.mem_of_getElem? (i := 2) rfl) rfl rfl dX6_readOrder_52 ?_
    refine lv_iload_n hx hb dX6_readOrder_55 rfl (lv_at hl 0 rfl) ?_
    refine lv_iload_n hx hb dX6_readOrder_56 rfl (lv_at hl 2 rfl) ?_
    obtain ⟨g5, h⟩ := q_g h
    refine r_iast C hW (bs' := [[(A b, .inr (6, [.ref (A (b + 1)), .ref (A (b + 2)), .int t3.2.2.1, .ref (A (b + 3)), .int t3.2.2.2.2.1, .ref (A (b + 4)), .int t3.2.2.2.2.2.2.1, .ref (A (b + 5)), .ref (A (b + 6)), .int t3.2.2.2.2.2.2.2.2.2.1, .int t3.2.2.2.2.2.2.2.2.2.2.1, .int t3.2.2.2.2.2.2.2.2.2.2.2]))], [(A (b + 1), .inl (gI g, 268, .inl t3.1))], [(A (b + 2), .inl (gI g, 1340, .inl t3.2.1))], [(A (b + 3), .inl (gI g, 268, .inl t3.2.2.2.1))], [(A (b + 4), .inl (gC g, 70, .inl t3.2.2.2.2.2.1))], [(A (b + 5), .inl (gI g, 3, .inl t3.2.2.2.2.2.2.2.1))], [(A (b + 6), .inl (gI g, 144, .inl (upd t3.2.2.2.2.2.2.2.2.1 (4 * t3.2.2.2.2.2.2.2.2.2.1).toNatClampNeg t1)))]]) 6 0 rfl rfl g5 dX6_readOrder_57 rfl (fun H locs hW => ?_)
    refine lv_iload_n hx hb dX6_readOrder_58 rfl (lv_at hl 2 rfl) ?_
    refine lv_bipush (v := 110) hx hb dX6_readOrder_59 (by decide) ?_
    have J158 : ∀ (w158 : TX6s), f_X6_readOrder_j158 w158 = some x' → ∀ (H : Heap) (locs : List Loc), WdG g Z s.heap H locs [[(A b, .inr (6, [.ref (A (b + 1)), .ref (A (b + 2)), .int w158.2.2.1, .ref (A (b + 3)), .int w158.2.2.2.2.1, .ref (A (b + 4)), .int w158.2.2.2.2.2.2.1, .ref (A (b + 5)), .ref (A (b + 6)), .int w158.2.2.2.2.2.2.2.2.2.1, .int w158.2.2.2.2.2.2.2.2.2.2.1, .int w158.2.2.2.2.2.2.2.2.2.2.2]))], [(A (b + 1), .inl (gI g, 268, .inl w158.1))], [(A (b + 2), .inl (gI g, 1340, .inl w158.2.1))], [(A (b + 3), .inl (gI g, 268, .inl w158.2.2.2.1))], [(A (b + 4), .inl (gC g, 70, .inl w158.2.2.2.2.2.1))], [(A (b + 5), .inl (gI g, 3, .inl w158.2.2.2.2.2.2.2.1))], [(A (b + 6), .inl (gI g, 144, .inl w158.2.2.2.2.2.2.2.2.1))]] → ∀ ls : Array Slot, lv_has ls 3 [(0, .ref (A b))] → W p l e R s m args below meth c H locs 0 0 Q (F0 m 158 ls []) := by
      intro w158 h H locs hW ls hl
      unfold f_X6_readOrder_j158 at h
      refine lv_aload_n hx hb dX6_readOrder_158 rfl (lv_at hl 0 rfl) ?_
      refine lv_dup hx hb dX6_readOrder_159 rfl ?_
      refine r_get C hW (K := RX6) (T := TX6) (N := 12) (v := .int w158.2.2.2.2.2.2.2.2.2.1) 0 0 9 rfl rfl rfl inX6_readOrder_X6 (by decide) (List.mem_of_getElem? (i := 1) rfl) rfl rfl dX6_readOrder_160 ?_
      refine lv_iconst (v := 1) hx hb dX6_readOrder_163 (by decide) ?_
      refine lv_iadd hx hb dX6_readOrder_164 ?_
      refine r_put C hW (bs' := [[(A b, .inr (6, [.ref (A (b + 1)), .ref (A (b + 2)), .int w158.2.2.1, .ref (A (b + 3)), .int w158.2.2.2.2.1, .ref (A (b + 4)), .int w158.2.2.2.2.2.2.1, .ref (A (b + 5)), .ref (A (b + 6)), .int (w158.2.2.2.2.2.2.2.2.2.1 + 1), .int w158.2.2.2.2.2.2.2.2.2.2.1, .int w158.2.2.2.2.2.2.2.2.2.2.2]))], [(A (b + 1), .inl (gI g, 268, .inl w158.1))], [(A (b + 2), .inl (gI g, 1340, .inl w158.2.1))], [(A (b + 3), .inl (gI g, 268, .inl w158.2.2.2.1))], [(A (b + 4), .inl (gC g, 70, .inl w158.2.2.2.2.2.1))], [(A (b + 5), .inl (gI g, 3, .inl w158.2.2.2.2.2.2.2.1))], [(A (b + 6), .inl (gI g, 144, .inl w158.2.2.2.2.2.2.2.2.1))]]) (K := RX6) (T := TX6) (N := 12) 0 0 9 rfl rfl rfl inX6_readOrder_X6 tyX6 tyX6_ok nmX6 (by decide) (List.mem_of_getElem? (i := 1) rfl) rfl rfl (tyX6_ok 9 (by decide)) rfl rfl (Nat.le_of_ble_eq_true rfl) dX6_readOrder_165 rfl (fun H locs hW => ?_)
      cases h
      exact E _ _ _ _ _ hW rfl dX6_readOrder_168
    refine lv_icmp_ne (tgt := 91) hx hb dX6_readOrder_61 (by decide) (fun e6 => ?_) (fun e6 => ?_)
    · replace h := q_f e6 h
      refine lv_iload_n hx hb dX6_readOrder_91 rfl (lv_at hl 2 rfl) ?_
      refine lv_bipush (v := 100) hx hb dX6_readOrder_92 (by decide) ?_
      refine lv_icmp_eq (tgt := 158) hx hb dX6_readOrder_94 (by decide) (fun e7 => ?_) (fun e7 => ?_)
      · replace h := q_t e7 h
        exact J158 (t3.1, t3.2.1, t3.2.2.1, t3.2.2.2.1, t3.2.2.2.2.1, t3.2.2.2.2.2.1, t3.2.2.2.2.2.2.1, t3.2.2.2.2.2.2.2.1, (upd t3.2.2.2.2.2.2.2.2.1 (4 * t3.2.2.2.2.2.2.2.2.2.1).toNatClampNeg t1), t3.2.2.2.2.2.2.2.2.2.1, t3.2.2.2.2.2.2.2.2.2.2.1, t3.2.2.2.2.2.2.2.2.2.2.2) h _ _ hW _ (lv_sub hl [1] rfl)
      · replace h := q_f e7 h
        refine lv_aload_n hx hb dX6_readOrder_97 rfl (lv_at hl 1 rfl) ?_
        refine r_get C hW (K := RX6) (T := TX6) (N := 12) (v := .ref (A (b + 6))) 0 0 8 rfl rfl rfl inX6_readOrder_X6 (by decide) (List.mem_of_getElem? (i := 2) rfl) rfl rfl dX6_readOrder_98 ?_
        refine lv_iload_n hx hb dX6_readOrder_101 rfl (lv_at hl 0 rfl) ?_
        refine lv_iconst (v := 1) hx hb dX6_readOrder_102 (by decide) ?_
        refine lv_iadd hx hb dX6_readOrder_103 ?_
        refine lv_aload_n hx hb dX6_readOrder_104 rfl (lv_at hl 1 rfl) ?_
        refine lv_iload_n hx hb dX6_readOrder_105 rfl (lv_at hl 2 rfl) ?_
        refine lv_bipush (v := 108) hx hb dX6_readOrder_106 (by decide) ?_
        have J116 : ∀ (w116 : Int32), f_X6_readOrder_j116 t1 t3 w116 = some x' → ∀ (H : Heap) (locs : List Loc), WdG g Z s.heap H locs [[(A b, .inr (6, [.ref (A (b + 1)), .ref (A (b + 2)), .int t3.2.2.1, .ref (A (b + 3)), .int t3.2.2.2.2.1, .ref (A (b + 4)), .int t3.2.2.2.2.2.2.1, .ref (A (b + 5)), .ref (A (b + 6)), .int t3.2.2.2.2.2.2.2.2.2.1, .int t3.2.2.2.2.2.2.2.2.2.2.1, .int t3.2.2.2.2.2.2.2.2.2.2.2]))], [(A (b + 1), .inl (gI g, 268, .inl t3.1))], [(A (b + 2), .inl (gI g, 1340, .inl t3.2.1))], [(A (b + 3), .inl (gI g, 268, .inl t3.2.2.2.1))], [(A (b + 4), .inl (gC g, 70, .inl t3.2.2.2.2.2.1))], [(A (b + 5), .inl (gI g, 3, .inl t3.2.2.2.2.2.2.2.1))], [(A (b + 6), .inl (gI g, 144, .inl (upd t3.2.2.2.2.2.2.2.2.1 (4 * t3.2.2.2.2.2.2.2.2.2.1).toNatClampNeg t1)))]] → ∀ ls : Array Slot, lv_has ls 3 [(0, .ref (A b)), (1, .int t1), (2, .int (4 * t3.2.2.2.2.2.2.2.2.2.1))] → W p l e R s m args below meth c H locs 0 0 Q (F0 m 116 ls [.int w116, .ref (A b), .int ((4 * t3.2.2.2.2.2.2.2.2.2.1) + 1), .ref (A (b + 6))]) := by
          intro w116 h H locs hW ls hl
          unfold f_X6_readOrder_j116 at h
          obtain ⟨t8, h9, h⟩ := q_b h
          refine r_cVi C hW (nA := 1) (As := [.int w116]) (rest := [.int ((4 * t3.2.2.2.2.2.2.2.2.2.1) + 1), .ref (A (b + 6))]) (c_X6_figure l g A b (t3.1, t3.2.1, t3.2.2.1, t3.2.2.2.1, t3.2.2.2.2.1, t3.2.2.2.2.2.1, t3.2.2.2.2.2.2.1, t3.2.2.2.2.2.2.2.1, (upd t3.2.2.2.2.2.2.2.2.1 (4 * t3.2.2.2.2.2.2.2.2.2.1).toNatClampNeg t1), t3.2.2.2.2.2.2.2.2.2.1, t3.2.2.2.2.2.2.2.2.2.2.1, t3.2.2.2.2.2.2.2.2.2.2.2) w116 _ _ h9) gX6_readOrder_X6_figure rfl ⟨rfl, wo_X6_figure⟩ (rmk hR rfl rfl) rfl rfl rfl rfl hl.1 (Nat.le_of_ble_eq_true rfl) rz dX6_readOrder_116 (n := 7) (is := [0, 1, 2, 3, 4, 5, 6]) (rs := []) (bs' := [[(A b, .inr (6, [.ref (A (b + 1)), .ref (A (b + 2)), .int t8.2.2.2.1, .ref (A (b + 3)), .int t8.2.2.2.2.2.1, .ref (A (b + 4)), .int t8.2.2.2.2.2.2.2.1, .ref (A (b + 5)), .ref (A (b + 6)), .int t8.2.2.2.2.2.2.2.2.2.2.1, .int t8.2.2.2.2.2.2.2.2.2.2.2.1, .int t8.2.2.2.2.2.2.2.2.2.2.2.2]))], [(A (b + 1), .inl (gI g, 268, .inl t8.2.1))], [(A (b + 2), .inl (gI g, 1340, .inl t8.2.2.1))], [(A (b + 3), .inl (gI g, 268, .inl t8.2.2.2.2.1))], [(A (b + 4), .inl (gC g, 70, .inl t8.2.2.2.2.2.2.1))], [(A (b + 5), .inl (gI g, 3, .inl t8.2.2.2.2.2.2.2.2.1))], [(A (b + 6), .inl (gI g, 144, .inl t8.2.2.2.2.2.2.2.2.2.1))]]) rfl rfl pm_39 rfl rfl rfl (fun H locs hW => ?_)
          obtain ⟨g10, h⟩ := q_g h
          refine r_iast C hW (bs' := [[(A b, .inr (6, [.ref (A (b + 1)), .ref (A (b + 2)), .int t8.2.2.2.1, .ref (A (b + 3)), .int t8.2.2.2.2.2.1, .ref (A (b + 4)), .int t8.2.2.2.2.2.2.2.1, .ref (A (b + 5)), .ref (A (b + 6)), .int t8.2.2.2.2.2.2.2.2.2.2.1, .int t8.2.2.2.2.2.2.2.2.2.2.2.1, .int t8.2.2.2.2.2.2.2.2.2.2.2.2]))], [(A (b + 1), .inl (gI g, 268, .inl t8.2.1))], [(A (b + 2), .inl (gI g, 1340, .inl t8.2.2.1))], [(A (b + 3), .inl (gI g, 268, .inl t8.2.2.2.2.1))], [(A (b + 4), .inl (gC g, 70, .inl t8.2.2.2.2.2.2.1))], [(A (b + 5), .inl (gI g, 3, .inl t8.2.2.2.2.2.2.2.2.1))], [(A (b + 6), .inl (gI g, 144, .inl (upd t8.2.2.2.2.2.2.2.2.2.1 ((4 * t3.2.2.2.2.2.2.2.2.2.1) + 1).toNatClampNeg t8.1)))]]) 6 0 rfl rfl g10 dX6_readOrder_119 rfl (fun H locs hW => ?_)
          refine lv_aload_n hx hb dX6_readOrder_120 rfl (lv_at hl 0 rfl) ?_
          refine r_get C hW (K := RX6) (T := TX6) (N := 12) (v := .ref (A (b + 6))) 0 0 8 rfl rfl rfl inX6_readOrder_X6 (by decide) (List.mem_of_getElem? (i := 2) rfl) rfl rfl dX6_readOrder_121 ?_
          refine lv_iload_n hx hb dX6_readOrder_124 rfl (lv_at hl 2 rfl) ?_
          refine lv_iconst (v := 2) hx hb dX6_readOrder_125 (by decide) ?_
          refine lv_iadd hx hb dX6_readOrder_126 ?_
          refine lv_aload_n hx hb dX6_readOrder_127 rfl (lv_at hl 0 rfl) ?_
          obtain ⟨t11, h12, h⟩ := q_b h
          refine r_cVi C hW (nA := 0) (As := []) (rest := [.int ((4 * t3.2.2.2.2.2.2.2.2.2.1) + 2), .ref (A (b + 6))]) (c_X6_mile l g A b (t8.2.1, t8.2.2.1, t8.2.2.2.1, t8.2.2.2.2.1, t8.2.2.2.2.2.1, t8.2.2.2.2.2.2.1, t8.2.2.2.2.2.2.2.1, t8.2.2.2.2.2.2.2.2.1, (upd t8.2.2.2.2.2.2.2.2.2.1 ((4 * t3.2.2.2.2.2.2.2.2.2.1) + 1).toNatClampNeg t8.1), t8.2.2.2.2.2.2.2.2.2.2.1, t8.2.2.2.2.2.2.2.2.2.2.2.1, t8.2.2.2.2.2.2.2.2.2.2.2.2) _ _ h12) gX6_readOrder_X6_mile rfl ⟨rfl, wo_X6_mile⟩ (rmk hR rfl rfl) rfl rfl rfl rfl hl.1 (Nat.le_of_ble_eq_true rfl) rz dX6_readOrder_128 (n := 7) (is := [0, 1, 2, 3, 4, 5, 6]) (rs := []) (bs' := [[(A b, .inr (6, [.ref (A (b + 1)), .ref (A (b + 2)), .int t11.2.2.2.1, .ref (A (b + 3)), .int t11.2.2.2.2.2.1, .ref (A (b + 4)), .int t11.2.2.2.2.2.2.2.1, .ref (A (b + 5)), .ref (A (b + 6)), .int t11.2.2.2.2.2.2.2.2.2.2.1, .int t11.2.2.2.2.2.2.2.2.2.2.2.1, .int t11.2.2.2.2.2.2.2.2.2.2.2.2]))], [(A (b + 1), .inl (gI g, 268, .inl t11.2.1))], [(A (b + 2), .inl (gI g, 1340, .inl t11.2.2.1))], [(A (b + 3), .inl (gI g, 268, .inl t11.2.2.2.2.1))], [(A (b + 4), .inl (gC g, 70, .inl t11.2.2.2.2.2.2.1))], [(A (b + 5), .inl (gI g, 3, .inl t11.2.2.2.2.2.2.2.2.1))], [(A (b + 6), .inl (gI g, 144, .inl t11.2.2.2.2.2.2.2.2.2.1))]]) rfl rfl pm_39 rfl rfl rfl (fun H locs hW => ?_)
          obtain ⟨g13, h⟩ := q_g h
          refine r_iast C hW (bs' := [[(A b, .inr (6, [.ref (A (b + 1)), .ref (A (b + 2)), .int t11.2.2.2.1, .ref (A (b + 3)), .int t11.2.2.2.2.2.1, .ref (A (b + 4)), .int t11.2.2.2.2.2.2.2.1, .ref (A (b + 5)), .ref (A (b + 6)), .int t11.2.2.2.2.2.2.2.2.2.2.1, .int t11.2.2.2.2.2.2.2.2.2.2.2.1, .int t11.2.2.2.2.2.2.2.2.2.2.2.2]))], [(A (b + 1), .inl (gI g, 268, .inl t11.2.1))], [(A (b + 2), .inl (gI g, 1340, .inl t11.2.2.1))], [(A (b + 3), .inl (gI g, 268, .inl t11.2.2.2.2.1))], [(A (b + 4), .inl (gC g, 70, .inl t11.2.2.2.2.2.2.1))], [(A (b + 5), .inl (gI g, 3, .inl t11.2.2.2.2.2.2.2.2.1))], [(A (b + 6), .inl (gI g, 144, .inl (upd t11.2.2.2.2.2.2.2.2.2.1 ((4 * t3.2.2.2.2.2.2.2.2.2.1) + 2).toNatClampNeg t11.1)))]]) 6 0 rfl rfl g13 dX6_readOrder_131 rfl (fun H locs hW => ?_)
          refine lv_aload_n hx hb dX6_readOrder_132 rfl (lv_at hl 0 rfl) ?_
          refine r_get C hW (K := RX6) (T := TX6) (N := 12) (v := .ref (A (b + 6))) 0 0 8 rfl rfl rfl inX6_readOrder_X6 (by decide) (List.mem_of_getElem? (i := 2) rfl) rfl rfl dX6_readOrder_133 ?_
          refine lv_iload_n hx hb dX6_readOrder_136 rfl (lv_at hl 2 rfl) ?_
          refine lv_iconst (v := 3) hx hb dX6_readOrder_137 (by decide) ?_
          refine lv_iadd hx hb dX6_readOrder_138 ?_
          refine lv_iload_n hx hb dX6_readOrder_139 rfl (lv_at hl 1 rfl) ?_
          refine lv_bipush (v := 97) hx hb dX6_readOrder_140 (by decide) ?_
          have J157 : ∀ (w157 : Int32 × TX6s), f_X6_readOrder_j157 t3 w157 = some x' → ∀ (H : Heap) (locs : List Loc), WdG g Z s.heap H locs [[(A b, .inr (6, [.ref (A (b + 1)), .ref (A (b + 2)), .int w157.2.2.2.1, .ref (A (b + 3)), .int w157.2.2.2.2.2.1, .ref (A (b + 4)), .int w157.2.2.2.2.2.2.2.1, .ref (A (b + 5)), .ref (A (b + 6)), .int w157.2.2.2.2.2.2.2.2.2.2.1, .int w157.2.2.2.2.2.2.2.2.2.2.2.1, .int w157.2.2.2.2.2.2.2.2.2.2.2.2]))], [(A (b + 1), .inl (gI g, 268, .inl w157.2.1))], [(A (b + 2), .inl (gI g, 1340, .inl w157.2.2.1))], [(A (b + 3), .inl (gI g, 268, .inl w157.2.2.2.2.1))], [(A (b + 4), .inl (gC g, 70, .inl w157.2.2.2.2.2.2.1))], [(A (b + 5), .inl (gI g, 3, .inl w157.2.2.2.2.2.2.2.2.1))], [(A (b + 6), .inl (gI g, 144, .inl w157.2.2.2.2.2.2.2.2.2.1))]] → ∀ ls : Array Slot, lv_has ls 3 [(0, .ref (A b))] → W p l e R s m args below meth c H locs 0 0 Q (F0 m 157 ls [.int w157.1, .int ((4 * t3.2.2.2.2.2.2.2.2.2.1) + 3), .ref (A (b + 6))]) := by
            intro w157 h H locs hW ls hl
            unfold f_X6_readOrder_j157 at h
            obtain ⟨g14, h⟩ := q_g h
            refine r_iast C hW (bs' := [[(A b, .inr (6, [.ref (A (b + 1)), .ref (A (b + 2)), .int w157.2.2.2.1, .ref (A (b + 3)), .int w157.2.2.2.2.2.1, .ref (A (b + 4)), .int w157.2.2.2.2.2.2.2.1, .ref (A (b + 5)), .ref (A (b + 6)), .int w157.2.2.2.2.2.2.2.2.2.2.1, .int w157.2.2.2.2.2.2.2.2.2.2.2.1, .int w157.2.2.2.2.2.2.2.2.2.2.2.2]))], [(A (b + 1), .inl (gI g, 268, .inl w157.2.1))], [(A (b + 2), .inl (gI g, 1340, .inl w157.2.2.1))], [(A (b + 3), .inl (gI g, 268, .inl w157.2.2.2.2.1))], [(A (b + 4), .inl (gC g, 70, .inl w157.2.2.2.2.2.2.1))], [(A (b + 5), .inl (gI g, 3, .inl w157.2.2.2.2.2.2.2.2.1))], [(A (b + 6), .inl (gI g, 144, .inl (upd w157.2.2.2.2.2.2.2.2.2.1 ((4 * t3.2.2.2.2.2.2.2.2.2.1) + 3).toNatClampNeg w157.1)))]]) 6 0 rfl rfl g14 dX6_readOrder_157 rfl (fun H locs hW => ?_)
            exact J158 (w157.2.1, w157.2.2.1, w157.2.2.2.1, w157.2.2.2.2.1, w157.2.2.2.2.2.1, w157.2.2.2.2.2.2.1, w157.2.2.2.2.2.2.2.1, w157.2.2.2.2.2.2.2.2.1, (upd w157.2.2.2.2.2.2.2.2.2.1 ((4 * t3.2.2.2.2.2.2.2.2.2.1) + 3).toNatClampNeg w157.1), w157.2.2.2.2.2.2.2.2.2.2.1, w157.2.2.2.2.2.2.2.2.2.2.2.1, w157.2.2.2.2.2.2.2.2.2.2.2.2) h _ _ hW _ (lv_sub hl [0] rfl)
          refine lv_icmp_ne (tgt := 152) hx hb dX6_readOrder_142 (by decide) (fun e15 => ?_) (fun e15 => ?_)
          · replace h := q_f e15 h
            refine lv_aload_n hx hb dX6_readOrder_152 rfl (lv_at hl 0 rfl) ?_
            refine lv_iconst (v := 3) hx hb dX6_readOrder_153 (by decide) ?_
            obtain ⟨t16, h17, h⟩ := q_b h
            refine r_cVi C hW (nA := 1) (As := [.int 3]) (rest := [.int ((4 * t3.2.2.2.2.2.2.2.2.2.1) + 3), .ref (A (b + 6))]) (c_X6_figure l g A b (t11.2.1, t11.2.2.1, t11.2.2.2.1, t11.2.2.2.2.1, t11.2.2.2.2.2.1, t11.2.2.2.2.2.2.1, t11.2.2.2.2.2.2.2.1, t11.2.2.2.2.2.2.2.2.1, (upd t11.2.2.2.2.2.2.2.2.2.1 ((4 * t3.2.2.2.2.2.2.2.2.2.1) + 2).toNatClampNeg t11.1), t11.2.2.2.2.2.2.2.2.2.2.1, t11.2.2.2.2.2.2.2.2.2.2.2.1, t11.2.2.2.2.2.2.2.2.2.2.2.2) 3 _ _ h17) gX6_readOrder_X6_figure rfl ⟨rfl, wo_X6_figure⟩ (rmk hR rfl rfl) rfl rfl rfl rfl hl.1 (Nat.le_of_ble_eq_true rfl) rz dX6_readOrder_154 (n := 7) (is := [0, 1, 2, 3, 4, 5, 6]) (rs := []) (bs' := [[(A b, .inr (6, [.ref (A (b + 1)), .ref (A (b + 2)), .int t16.2.2.2.1, .ref (A (b + 3)), .int t16.2.2.2.2.2.1, .ref (A (b + 4)), .int t16.2.2.2.2.2.2.2.1, .ref (A (b + 5)), .ref (A (b + 6)), .int t16.2.2.2.2.2.2.2.2.2.2.1, .int t16.2.2.2.2.2.2.2.2.2.2.2.1, .int t16.2.2.2.2.2.2.2.2.2.2.2.2]))], [(A (b + 1), .inl (gI g, 268, .inl t16.2.1))], [(A (b + 2), .inl (gI g, 1340, .inl t16.2.2.1))], [(A (b + 3), .inl (gI g, 268, .inl t16.2.2.2.2.1))], [(A (b + 4), .inl (gC g, 70, .inl t16.2.2.2.2.2.2.1))], [(A (b + 5), .inl (gI g, 3, .inl t16.2.2.2.2.2.2.2.2.1))], [(A (b + 6), .inl (gI g, 144, .inl t16.2.2.2.2.2.2.2.2.2.1))]]) rfl rfl pm_39 rfl rfl rfl (fun H locs hW => ?_)
            exact J157 (t16.1, t16.2) h _ _ hW _ (lv_sub hl [0] rfl)
          · replace h := q_t e15 h
            refine lv_aload_n hx hb dX6_readOrder_145 rfl (lv_at hl 0 rfl) ?_
            obtain ⟨t18, h19, h⟩ := q_b h
            refine r_cVi C hW (nA := 0) (As := []) (rest := [.int ((4 * t3.2.2.2.2.2.2.2.2.2.1) + 3), .ref (A (b + 6))]) (c_X6_way l g A b (t11.2.1, t11.2.2.1, t11.2.2.2.1, t11.2.2.2.2.1, t11.2.2.2.2.2.1, t11.2.2.2.2.2.2.1, t11.2.2.2.2.2.2.2.1, t11.2.2.2.2.2.2.2.2.1, (upd t11.2.2.2.2.2.2.2.2.2.1 ((4 * t3.2.2.2.2.2.2.2.2.2.1) + 2).toNatClampNeg t11.1), t11.2.2.2.2.2.2.2.2.2.2.1, t11.2.2.2.2.2.2.2.2.2.2.2.1, t11.2.2.2.2.2.2.2.2.2.2.2.2) _ _ h19) gX6_readOrder_X6_way rfl ⟨rfl, wo_X6_way⟩ (rmk hR rfl rfl) rfl rfl rfl rfl hl.1 (Nat.le_of_ble_eq_true rfl) rz dX6_readOrder_146 (n := 7) (is := [0, 1, 2, 3, 4, 5, 6]) (rs := []) (bs' := [[(A b, .inr (6, [.ref (A (b + 1)), .ref (A (b + 2)), .int t18.2.2.2.1, .ref (A (b + 3)), .int t18.2.2.2.2.2.1, .ref (A (b + 4)), .int t18.2.2.2.2.2.2.2.1, .ref (A (b + 5)), .ref (A (b + 6)), .int t18.2.2.2.2.2.2.2.2.2.2.1, .int t18.2.2.2.2.2.2.2.2.2.2.2.1, .int t18.2.2.2.2.2.2.2.2.2.2.2.2]))], [(A (b + 1), .inl (gI g, 268, .inl t18.2.1))], [(A (b + 2), .inl (gI g, 1340, .inl t18.2.2.1))], [(A (b + 3), .inl (gI g, 268, .inl t18.2.2.2.2.1))], [(A (b + 4), .inl (gC g, 70, .inl t18.2.2.2.2.2.2.1))], [(A (b + 5), .inl (gI g, 3, .inl t18.2.2.2.2.2.2.2.2.1))], [(A (b + 6), .inl (gI g, 144, .inl t18.2.2.2.2.2.2.2.2.2.1))]]) rfl rfl pm_39 rfl rfl rfl (fun H locs hW => ?_)
            refine lv_goto (tgt := 157) hx hb dX6_readOrder_149 (by decide) ?_
            exact J157 (t18.1, t18.2) h _ _ hW _ (lv_sub hl [0] rfl)
        refine lv_icmp_ne (tgt := 115) hx hb dX6_readOrder_108 (by decide) (fun e20 => ?_) (fun e20 => ?_)
        · replace h := q_f e20 h
          refine lv_iconst (v := 2) hx hb dX6_readOrder_115 (by decide) ?_
          exact J116 2 h _ _ hW _ (lv_sub hl [1, 2, 0] rfl)
        · replace h := q_t e20 h
          refine lv_iconst (v := 1) hx hb dX6_readOrder_111 (by decide) ?_
          refine lv_goto (tgt := 116) hx hb dX6_readOrder_112 (by decide) ?_
          exact J116 1 h _ _ hW _ (lv_sub hl [1, 2, 0] rfl)
    · replace h := q_t e6 h
      refine lv_aload_n hx hb dX6_readOrder_64 rfl (lv_at hl 1 rfl) ?_
      refine r_get C hW (K := RX6) (T := TX6) (N := 12) (v := .ref (A (b + 6))) 0 0 8 rfl rfl rfl inX6_readOrder_X6 (by decide) (List.mem_of_getElem? (i := 2) rfl) rfl rfl dX6_readOrder_65 ?_
      refine lv_iload_n hx hb dX6_readOrder_68 rfl (lv_at hl 0 rfl) ?_
      refine lv_iconst (v := 1) hx hb dX6_readOrder_69 (by decide) ?_
      refine lv_iadd hx hb dX6_readOrder_70 ?_
      refine lv_aload_n hx hb dX6_readOrder_71 rfl (lv_at hl 1 rfl) ?_
      obtain ⟨t21, h22, h⟩ := q_b h
      refine r_cVi C hW (nA := 0) (As := []) (rest := [.int ((4 * t3.2.2.2.2.2.2.2.2.2.1) + 1), .ref (A (b + 6))]) (c_X6_mile l g A b (t3.1, t3.2.1, t3.2.2.1, t3.2.2.2.1, t3.2.2.2.2.1, t3.2.2.2.2.2.1, t3.2.2.2.2.2.2.1, t3.2.2.2.2.2.2.2.1, (upd t3.2.2.2.2.2.2.2.2.1 (4 * t3.2.2.2.2.2.2.2.2.2.1).toNatClampNeg t1), t3.2.2.2.2.2.2.2.2.2.1, t3.2.2.2.2.2.2.2.2.2.2.1, t3.2.2.2.2.2.2.2.2.2.2.2) _ _ h22) gX6_readOrder_X6_mile rfl ⟨rfl, wo_X6_mile⟩ (rmk hR rfl rfl) rfl rfl rfl rfl hl.1 (Nat.le_of_ble_eq_true rfl) rz dX6_readOrder_72 (n := 7) (is := [0, 1, 2, 3, 4, 5, 6]) (rs := []) (bs' := [[(A b, .inr (6, [.ref (A (b + 1)), .ref (A (b + 2)), .int t21.2.2.2.1, .ref (A (b + 3)), .int t21.2.2.2.2.2.1, .ref (A (b + 4)), .int t21.2.2.2.2.2.2.2.1, .ref (A (b + 5)), .ref (A (b + 6)), .int t21.2.2.2.2.2.2.2.2.2.2.1, .int t21.2.2.2.2.2.2.2.2.2.2.2.1, .int t21.2.2.2.2.2.2.2.2.2.2.2.2]))], [(A (b + 1), .inl (gI g, 268, .inl t21.2.1))], [(A (b + 2), .inl (gI g, 1340, .inl t21.2.2.1))], [(A (b + 3), .inl (gI g, 268, .inl t21.2.2.2.2.1))], [(A (b + 4), .inl (gC g, 70, .inl t21.2.2.2.2.2.2.1))], [(A (b + 5), .inl (gI g, 3, .inl t21.2.2.2.2.2.2.2.2.1))], [(A (b + 6), .inl (gI g, 144, .inl t21.2.2.2.2.2.2.2.2.2.1))]]) rfl rfl pm_39 rfl rfl rfl (fun H locs hW => ?_)
      obtain ⟨g23, h⟩ := q_g h
      refine r_iast C hW (bs' := [[(A b, .inr (6, [.ref (A (b + 1)), .ref (A (b + 2)), .int t21.2.2.2.1, .ref (A (b + 3)), .int t21.2.2.2.2.2.1, .ref (A (b + 4)), .int t21.2.2.2.2.2.2.2.1, .ref (A (b + 5)), .ref (A (b + 6)), .int t21.2.2.2.2.2.2.2.2.2.2.1, .int t21.2.2.2.2.2.2.2.2.2.2.2.1, .int t21.2.2.2.2.2.2.2.2.2.2.2.2]))], [(A (b + 1), .inl (gI g, 268, .inl t21.2.1))], [(A (b + 2), .inl (gI g, 1340, .inl t21.2.2.1))], [(A (b + 3), .inl (gI g, 268, .inl t21.2.2.2.2.1))], [(A (b + 4), .inl (gC g, 70, .inl t21.2.2.2.2.2.2.1))], [(A (b + 5), .inl (gI g, 3, .inl t21.2.2.2.2.2.2.2.2.1))], [(A (b + 6), .inl (gI g, 144, .inl (upd t21.2.2.2.2.2.2.2.2.2.1 ((4 * t3.2.2.2.2.2.2.2.2.2.1) + 1).toNatClampNeg t21.1)))]]) 6 0 rfl rfl g23 dX6_readOrder_75 rfl (fun H locs hW => ?_)
      refine lv_aload_n hx hb dX6_readOrder_76 rfl (lv_at hl 1 rfl) ?_
      refine r_get C hW (K := RX6) (T := TX6) (N := 12) (v := .ref (A (b + 6))) 0 0 8 rfl rfl rfl inX6_readOrder_X6 (by decide) (List.mem_of_getElem? (i := 2) rfl) rfl rfl dX6_readOrder_77 ?_
      refine lv_iload_n hx hb dX6_readOrder_80 rfl (lv_at hl 0 rfl) ?_
      refine lv_iconst (v := 2) hx hb dX6_readOrder_81 (by decide) ?_
      refine lv_iadd hx hb dX6_readOrder_82 ?_
      refine lv_aload_n hx hb dX6_readOrder_83 rfl (lv_at hl 1 rfl) ?_
      obtain ⟨t24, h25, h⟩ := q_b h
      refine r_cVi C hW (nA := 0) (As := []) (rest := [.int ((4 * t3.2.2.2.2.2.2.2.2.2.1) + 2), .ref (A (b + 6))]) (c_X6_mile l g A b (t21.2.1, t21.2.2.1, t21.2.2.2.1, t21.2.2.2.2.1, t21.2.2.2.2.2.1, t21.2.2.2.2.2.2.1, t21.2.2.2.2.2.2.2.1, t21.2.2.2.2.2.2.2.2.1, (upd t21.2.2.2.2.2.2.2.2.2.1 ((4 * t3.2.2.2.2.2.2.2.2.2.1) + 1).toNatClampNeg t21.1), t21.2.2.2.2.2.2.2.2.2.2.1, t21.2.2.2.2.2.2.2.2.2.2.2.1, t21.2.2.2.2.2.2.2.2.2.2.2.2) _ _ h25) gX6_readOrder_X6_mile rfl ⟨rfl, wo_X6_mile⟩ (rmk hR rfl rfl) rfl rfl rfl rfl hl.1 (Nat.le_of_ble_eq_true rfl) rz dX6_readOrder_84 (n := 7) (is := [0, 1, 2, 3, 4, 5, 6]) (rs := []) (bs' := [[(A b, .inr (6, [.ref (A (b + 1)), .ref (A (b + 2)), .int t24.2.2.2.1, .ref (A (b + 3)), .int t24.2.2.2.2.2.1, .ref (A (b + 4)), .int t24.2.2.2.2.2.2.2.1, .ref (A (b + 5)), .ref (A (b + 6)), .int t24.2.2.2.2.2.2.2.2.2.2.1, .int t24.2.2.2.2.2.2.2.2.2.2.2.1, .int t24.2.2.2.2.2.2.2.2.2.2.2.2]))], [(A (b + 1), .inl (gI g, 268, .inl t24.2.1))], [(A (b + 2), .inl (gI g, 1340, .inl t24.2.2.1))], [(A (b + 3), .inl (gI g, 268, .inl t24.2.2.2.2.1))], [(A (b + 4), .inl (gC g, 70, .inl t24.2.2.2.2.2.2.1))], [(A (b + 5), .inl (gI g, 3, .inl t24.2.2.2.2.2.2.2.2.1))], [(A (b + 6), .inl (gI g, 144, .inl t24.2.2.2.2.2.2.2.2.2.1))]]) rfl rfl pm_39 rfl rfl rfl (fun H locs hW => ?_)
      obtain ⟨g26, h⟩ := q_g h
      refine r_iast C hW (bs' := [[(A b, .inr (6, [.ref (A (b + 1)), .ref (A (b + 2)), .int t24.2.2.2.1, .ref (A (b + 3)), .int t24.2.2.2.2.2.1, .ref (A (b + 4)), .int t24.2.2.2.2.2.2.2.1, .ref (A (b + 5)), .ref (A (b + 6)), .int t24.2.2.2.2.2.2.2.2.2.2.1, .int t24.2.2.2.2.2.2.2.2.2.2.2.1, .int t24.2.2.2.2.2.2.2.2.2.2.2.2]))], [(A (b + 1), .inl (gI g, 268, .inl t24.2.1))], [(A (b + 2), .inl (gI g, 1340, .inl t24.2.2.1))], [(A (b + 3), .inl (gI g, 268, .inl t24.2.2.2.2.1))], [(A (b + 4), .inl (gC g, 70, .inl t24.2.2.2.2.2.2.1))], [(A (b + 5), .inl (gI g, 3, .inl t24.2.2.2.2.2.2.2.2.1))], [(A (b + 6), .inl (gI g, 144, .inl (upd t24.2.2.2.2.2.2.2.2.2.1 ((4 * t3.2.2.2.2.2.2.2.2.2.1) + 2).toNatClampNeg t24.1)))]]) 6 0 rfl rfl g26 dX6_readOrder_87 rfl (fun H locs hW => ?_)
      refine lv_goto (tgt := 158) hx hb dX6_readOrder_88 (by decide) ?_
      exact J158 (t24.2.1, t24.2.2.1, t24.2.2.2.1, t24.2.2.2.2.1, t24.2.2.2.2.2.1, t24.2.2.2.2.2.2.1, t24.2.2.2.2.2.2.2.1, t24.2.2.2.2.2.2.2.2.1, (upd t24.2.2.2.2.2.2.2.2.2.1 ((4 * t3.2.2.2.2.2.2.2.2.2.1) + 2).toNatClampNeg t24.1), t24.2.2.2.2.2.2.2.2.2.2.1, t24.2.2.2.2.2.2.2.2.2.2.2.1, t24.2.2.2.2.2.2.2.2.2.2.2.2) h _ _ hW _ (lv_sub hl [1] rfl)
  have J36 : ∀ (w36 : Unit), f_X6_readOrder_j36 x t1 w36 = some x' → ∀ (H : Heap) (locs : List Loc), WdG g Z s.heap H locs [[(A b, .inr (6, [.ref (A (b + 1)), .ref (A (b + 2)), .int x.2.2.1, .ref (A (b + 3)), .int x.2.2.2.2.1, .ref (A (b + 4)), .int x.2.2.2.2.2.2.1, .ref (A (b + 5)), .ref (A (b + 6)), .int x.2.2.2.2.2.2.2.2.2.1, .int x.2.2.2.2.2.2.2.2.2.2.1, .int x.2.2.2.2.2.2.2.2.2.2.2]))], [(A (b + 1), .inl (gI g, 268, .inl x.1))], [(A (b + 2), .inl (gI g, 1340, .inl x.2.1))], [(A (b + 3), .inl (gI g, 268, .inl x.2.2.2.1))], [(A (b + 4), .inl (gC g, 70, .inl x.2.2.2.2.2.1))], [(A (b + 5), .inl (gI g, 3, .inl x.2.2.2.2.2.2.2.1))], [(A (b + 6), .inl (gI g, 144, .inl x.2.2.2.2.2.2.2.2.1))]] → ∀ ls : Array Slot, lv_has ls 3 [(0, .ref (A b)), (1, .int t1)] → W p l e R s m args below meth c H locs 0 0 Q (F0 m 36 ls [.ref (A b)]) := by
    intro w36 h H locs hW ls hl
    unfold f_X6_readOrder_j36 at h
    refine lv_iconst (v := 1) hx hb dX6_readOrder_36 (by decide) ?_
    refine lv_goto (tgt := 41) hx hb dX6_readOrder_37 (by decide) ?_
    exact J41 1 h _ _ hW _ (lv_sub hl [0, 1] rfl)
  refine lv_icmp_eq (tgt := 36) hx hb dX6_readOrder_9 (by decide) (fun e27 => ?_) (fun e27 => ?_)
  · replace h := q_t e27 h
    exact J36 () h _ _ hW _ (lv_sub hl [1, 0] rfl)
  · replace h := q_f e27 h
    refine lv_iload_n hx hb dX6_readOrder_12 rfl (lv_at hl 0 rfl) ?_
    refine lv_bipush (v := 119) hx hb dX6_readOrder_13 (by decide) ?_
    refine lv_icmp_eq (tgt := 36) hx hb dX6_readOrder_15 (by decide) (fun e28 => ?_) (fun e28 => ?_)
    · replace h := q_t e28 h
      exact J36 () h _ _ hW _ (lv_sub hl [1, 0] rfl)
    · replace h := q_f e28 h
      refine lv_iload_n hx hb dX6_readOrder_18 rfl (lv_at hl 0 rfl) ?_
      refine lv_bipush (v := 108) hx hb dX6_readOrder_19 (by decide) ?_
      refine lv_icmp_eq (tgt := 36) hx hb dX6_readOrder_21 (by decide) (fun e29 => ?_) (fun e29 => ?_)
      · replace h := q_t e29 h
        exact J36 () h _ _ hW _ (lv_sub hl [1, 0] rfl)
      · replace h := q_f e29 h
        refine lv_iload_n hx hb dX6_readOrder_24 rfl (lv_at hl 0 rfl) ?_
        refine lv_bipush (v := 110) hx hb dX6_readOrder_25 (by decide) ?_
        refine lv_icmp_eq (tgt := 36) hx hb dX6_readOrder_27 (by decide) (fun e30 => ?_) (fun e30 => ?_)
        · replace h := q_t e30 h
          exact J36 () h _ _ hW _ (lv_sub hl [1, 0] rfl)
        · replace h := q_f e30 h
          refine lv_iload_n hx hb dX6_readOrder_30 rfl (lv_at hl 0 rfl) ?_
          refine lv_bipush (v := 100) hx hb dX6_readOrder_31 (by decide) ?_
          refine lv_icmp_ne (tgt := 40) hx hb dX6_readOrder_33 (by decide) (fun e31 => ?_) (fun e31 => ?_)
          · replace h := q_f e31 h
            refine lv_iconst (v := 0) hx hb dX6_readOrder_40 (by decide) ?_
            exact J41 0 h _ _ hW _ (lv_sub hl [1, 0] rfl)
          · replace h := q_t e31 h
            exact J36 () h _ _ hW _ (lv_sub hl [1, 0] rfl)
