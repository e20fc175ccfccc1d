def f_X4_kindOr (x : TX4s) (p1 : Int32) (p2 : Int32) (p3 : Int32) : Option (Int32) :=
if ((p1 * 16) + p2) < 0 ∨ x.1 ≤ ((p1 * 16) + p2).toNatClampNeg then none else
if (x.2.2.2 ((p1 * 16) + p2).toNatClampNeg) ≤ 0 then (
some p3)
else (
if ((p1 * 16) + p2) < 0 ∨ x.1 ≤ ((p1 * 16) + p2).toNatClampNeg then none else
some (x.2.2.1 ((p1 * 16) + p2).toNatClampNeg))
theorem wo_X4_kindOr : wordsOk yX4_kindOr 3 := by decide +kernel
theorem inX4_kindOr_X4 : ∀ w ∈ wsX40, w ∈ wsX4_kindOr := fun _ h => List.mem_cons_of_mem _ (List.mem_append_right _ h)
set_option maxHeartbeats 4000000 in
set_option maxRecDepth 100000 in
theorem c_X4_kindOr (l : Launch) (g : GG) (A : Nat → Nat) (b : Nat) (x : TX4s) (p1 : Int32) (p2 : Int32) (p3 : Int32) (r : Int32) (h : f_X4_kindOr x p1 p2 p3 = some r) : CI l yX4_kindOr wsX4_kindOr 0 0 g [.ref (A b), .int p1, .int p2, .int p3] (wX4 g A b x) r (wX4 g A b x) := by
  refine CI.mk (own := RX4) (by decide) rfl rfl (Nat.le_of_ble_eq_true rfl) ?_
  intro p e R s m args below meth c Z Q C E hR H hW ls hl
  have hx := C.1.1
  have hb := C.1.2.1
  have hown := C.1.2.2.2.1
  replace hW : WdG g Z s.heap H [] [[(A b, .inr (4, [.int x.2.1, .ref (A (b + 1)), .ref (A (b + 2))]))], [(A (b + 1), .inl (gI g, x.1, .inl x.2.2.1))], [(A (b + 2), .inl (gI g, x.1, .inl x.2.2.2))]] := hW.re rfl
  replace hl : lv_has ls 5 [(0, .ref (A b)), (1, .int p1), (2, .int p2), (3, .int p3)] := hl
  unfold f_X4_kindOr at h
  refine lv_iload_n hx hb dX4_kindOr_0 rfl (lv_at hl 1 rfl) ?_
  refine lv_bipush (v := 16) hx hb dX4_kindOr_1 (by decide) ?_
  refine lv_imul hx hb dX4_kindOr_3 ?_
  refine lv_iload_n hx hb dX4_kindOr_4 rfl (lv_at hl 2 rfl) ?_
  refine lv_iadd hx hb dX4_kindOr_5 ?_
  refine lv_istore (lv' := [(4, .int ((p1 * 16) + p2)), (0, .ref (A b)), (1, .int p1), (2, .int p2), (3, .int p3)]) hx hb dX4_kindOr_6 hl (by decide) rfl (fun ls hl => ?_)
  refine lv_aload_n hx hb dX4_kindOr_8 rfl (lv_at hl 1 rfl) ?_
  refine r_get C hW (K := RX4) (T := TX4) (N := 3) (v := .ref (A (b + 2))) 0 0 2 rfl rfl rfl inX4_kindOr_X4 (by decide) (List.mem_of_getElem? (i := 1) rfl) rfl rfl dX4_kindOr_9 ?_
  refine lv_iload hx hb dX4_kindOr_12 (lv_at hl 0 rfl) ?_
  obtain ⟨g1, h⟩ := q_g h
  refine r_iald C hW 2 0 rfl rfl g1 dX4_kindOr_14 ?_
  refine lv_if_le (tgt := 28) hx hb dX4_kindOr_15 (by decide) (fun e2 => ?_) (fun e2 => ?_)
  · replace h := q_t e2 h
    refine lv_iload_n hx hb dX4_kindOr_28 rfl (lv_at hl 4 rfl) ?_
    cases h
    exact E _ _ _ _ _ hW rfl rfl dX4_kindOr_29
  · replace h := q_f e2 h
    refine lv_aload_n hx hb dX4_kindOr_18 rfl (lv_at hl 1 rfl) ?_
    refine r_get C hW (K := RX4) (T := TX4) (N := 3) (v := .ref (A (b + 1))) 0 0 1 rfl rfl rfl inX4_kindOr_X4 (by decide) (List.mem_of_getElem? (i := 2) rfl) rfl rfl dX4_kindOr_19 ?_
    refine lv_iload hx hb dX4_kindOr_22 (lv_at hl 0 rfl) ?_
    obtain ⟨g3, h⟩ := q_g h
    refine r_iald C hW 1 0 rfl rfl g3 dX4_kindOr_24 ?_
    refine lv_goto (tgt := 29) hx hb dX4_kindOr_25 (by decide) ?_
    cases h
    exact E _ _ _ _ _ hW rfl rfl dX4_kindOr_29
def f_X4_copyFrom_l2 (y : TX4s) (k2 : (Int32 × TX4s) → Option (TX4s)) (v2 : Int32 × TX4s) : Option (TX4s) :=
if (nI v2.2.1) ≤ v2.1 then (
some v2.2)
else (
if (nI y.1) ≤ v2.1 then (
some v2.2)
else (
if v2.1 < 0 ∨ y.1 ≤ (v2.1).toNatClampNeg then none else
if v2.1 < 0 ∨ v2.2.1 ≤ (v2.1).toNatClampNeg then none else
if v2.1 < 0 ∨ y.1 ≤ (v2.1).toNatClampNeg then none else
if v2.1 < 0 ∨ v2.2.1 ≤ (v2.1).toNatClampNeg then none else
k2 ((v2.1 + 1), (v2.2.1, v2.2.2.1, (upd v2.2.2.2.1 (v2.1).toNatClampNeg (y.2.2.1 (v2.1).toNatClampNeg)), (upd v2.2.2.2.2 (v2.1).toNatClampNeg (y.2.2.2 (v2.1).toNatClampNeg))))))
def f_X4_copyFrom (x : TX4s) (y : TX4s) : Option (TX4s) :=
lpN (f_X4_copyFrom_l2 y) 3000 (0, x)
theorem wo_X4_copyFrom : wordsOk yX4_copyFrom 1 := by decide +kernel
theorem inX4_copyFrom_X4 : ∀ w ∈ wsX40, w ∈ wsX4_copyFrom := fun _ h => List.mem_cons_of_mem _ (List.mem_append_right _ h)
set_option maxHeartbeats 4000000 in
set_option maxRecDepth 100000 in
theorem c_X4_copyFrom (l : Launch) (g : GG) (A : Nat → Nat) (b : Nat) (A2 : Nat → Nat) (b2 : Nat) (x : TX4s) (y : TX4s) (x' : TX4s) (h : f_X4_copyFrom x y = some x') : CV l yX4_copyFrom wsX4_copyFrom 0 0 g [.ref (A b), .ref (A2 b2)] (wX4 g A b x ++ wX4 g A2 b2 y) (wX4 g A b x' ++ wX4 g A2 b2 y) := by
  refine CV.mk (own := RX4) (by decide) rfl rfl (Nat.le_of_ble_eq_true rfl) ?_
  intro p e R s m args below meth c Z Q C E hR H hW ls hl
  have hx := C.1.1
  have hb := C.1.2.1
  have hown := C.1.2.2.2.1
  replace hW : WdG g Z s.heap H [] [[(A b, .inr (4, [.int x.2.1, .ref (A (b + 1)), .ref (A (b + 2))]))], [(A (b + 1), .inl (gI g, x.1, .inl x.2.2.1))], [(A (b + 2), .inl (gI g, x.1, .inl x.2.2.2))], [(A2 b2, .inr (4, [.int y.2.1, .ref (A2 (b2 + 1)), .ref (A2 (b2 + 2))]))], [(A2 (b2 + 1), .inl (gI g, y.1, .inl y.2.2.1))], [(A2 (b2 + 2), .inl (gI g, y.1, .inl y.2.2.2))]] := hW.re rfl
  replace hl : lv_has ls 3 [(0, .ref (A b)), (1, .ref (A2 b2))] := hl
  unfold f_X4_copyFrom at h
  refine lv_iconst (v := 0) hx hb dX4_copyFrom_0 (by decide) ?_
  refine lv_istore_n (lv' := [(2, .int 0), (0, .ref (A b)), (1, .ref (A2 b2))]) hx hb dX4_copyFrom_1 rfl hl (by decide) rfl (fun ls hl => ?_)
  have L2 : ∀ n2 : Nat, ∀ (v2 : Int32 × TX4s), lpN (f_X4_copyFrom_l2 y) n2 v2 = some x' → ∀ (H : Heap) (locs : List Loc), WdG g Z s.heap H locs [[(A b, .inr (4, [.int v2.2.2.1, .ref (A (b + 1)), .ref (A (b + 2))]))], [(A (b + 1), .inl (gI g, v2.2.1, .inl v2.2.2.2.1))], [(A (b + 2), .inl (gI g, v2.2.1, .inl v2.2.2.2.2))], [(A2 b2, .inr (4, [.int y.2.1, .ref (A2 (b2 + 1)), .ref (A2 (b2 + 2))]))], [(A2 (b2 + 1), .inl (gI g, y.1, .inl y.2.2.1))], [(A2 (b2 + 2), .inl (gI g, y.1, .inl y.2.2.2))]] → ∀ ls : Array Slot, lv_has ls 3 [(0, .ref (A b)), (1, .ref (A2 b2)), (2, .int v2.1)] → W p l e R s m args below meth c H locs 0 0 Q (F0 m 2 ls []) := by
    intro n2
    induction n2 with
    | zero => intro v2 h; exact absurd (show none = some x' from h) (fun h => by cases h)
    | succ n2 ih2 =>
      intro v2 h H locs hW ls hl
      replace h : f_X4_copyFrom_l2 y (lpN (f_X4_copyFrom_l2 y) n2) v2 = some x' := h
      unfold f_X4_copyFrom_l2 at h
      refine lv_iload_n hx hb dX4_copyFrom_2 rfl (lv_at hl 2 rfl) ?_
      refine lv_aload_n hx hb dX4_copyFrom_3 rfl (lv_at hl 0 rfl) ?_
      refine r_get C hW (K := RX4) (T := TX4) (N := 3) (v := .ref (A (b + 2))) 0 0 2 rfl rfl rfl inX4_copyFrom_X4 (by decide) (List.mem_of_getElem? (i := 1) rfl) rfl rfl dX4_copyFrom_4 ?_
      refine r_alen C hW 2 0 rfl rfl dX4_copyFrom_7 ?_
      refine lv_icmp_ge (tgt := 50) hx hb dX4_copyFrom_8 (by decide) (fun e1 => ?_) (fun e1 => ?_)
      · replace h := q_t e1 h
        cases h
        exact E _ _ _ _ _ hW rfl dX4_copyFrom_50
      · replace h := q_f e1 h
        refine lv_iload_n hx hb dX4_copyFrom_11 rfl (lv_at hl 2 rfl) ?_
        refine lv_aload_n hx hb dX4_copyFrom_12 rfl (lv_at hl 1 rfl) ?_
        refine r_get C hW (K := RX4) (T := TX4) (N := 3) (v := .ref (A2 (b2 + 2))) 3 0 2 rfl rfl rfl inX4_copyFrom_X4 (by decide) (List.mem_of_getElem? (i := 1) rfl) rfl rfl dX4_copyFrom_13 ?_
        refine r_alen C hW 5 0 rfl rfl dX4_copyFrom_16 ?_
        refine lv_icmp_ge (tgt := 50) hx hb dX4_copyFrom_17 (by decide) (fun e2 => ?_) (fun e2 => ?_)
        · replace h := q_t e2 h
          cases h
          exact E _ _ _ _ _ hW rfl dX4_copyFrom_50
        · replace h := q_f e2 h
          refine lv_aload_n hx hb dX4_copyFrom_20 rfl (lv_at hl 0 rfl) ?_
          refine r_get C hW (K := RX4) (T := TX4) (N := 3) (v := .ref (A (b + 1))) 0 0 1 rfl rfl rfl inX4_copyFrom_X4 (by decide) (List.mem_of_getElem? (i := 2) rfl) rfl rfl dX4_copyFrom_21 ?_
          refine lv_iload_n hx hb dX4_copyFrom_24 rfl (lv_at hl 2 rfl) ?_
          refine lv_aload_n hx hb dX4_copyFrom_25 rfl (lv_at hl 1 rfl) ?_
          refine r_get C hW (K := RX4) (T := TX4) (N := 3) (v := .ref (A2 (b2 + 1))) 3 0 1 rfl rfl rfl inX4_copyFrom_X4 (by decide) (List.mem_of_getElem? (i := 2) rfl) rfl rfl dX4_copyFrom_26 ?_
          refine lv_iload_n hx hb dX4_copyFrom_29 rfl (lv_at hl 2 rfl) ?_
          obtain ⟨g3, h⟩ := q_g h
          refine r_iald C hW 4 0 rfl rfl g3 dX4_copyFrom_30 ?_
          obtain ⟨g4, h⟩ := q_g h
          refine r_iast C hW (bs' := [[(A b, .inr (4, [.int v2.2.2.1, .ref (A (b + 1)), .ref (A (b + 2))]))], [(A (b + 1), .inl (gI g, v2.2.1, .inl (upd v2.2.2.2.1 (v2.1).toNatClampNeg (y.2.2.1 (v2.1).toNatClampNeg))))], [(A (b + 2), .inl (gI g, v2.2.1, .inl v2.2.2.2.2))], [(A2 b2, .inr (4, [.int y.2.1, .ref (A2 (b2 + 1)), .ref (A2 (b2 + 2))]))], [(A2 (b2 + 1), .inl (gI g, y.1, .inl y.2.2.1))], [(A2 (b2 + 2), .inl (gI g, y.1, .inl y.2.2.2))]]) 1 0 rfl rfl g4 dX4_copyFrom_31 rfl (fun H locs hW => ?_)
          refine lv_aload_n hx hb dX4_copyFrom_32 rfl (lv_at hl 0 rfl) ?_
          refine r_get C hW (K := RX4) (T := TX4) (N := 3) (v := .ref (A (b + 2))) 0 0 2 rfl rfl rfl inX4_copyFrom_X4 (by decide) (List.mem_of_getElem? (i := 1) rfl) rfl rfl dX4_copyFrom_33 ?_
          refine lv_iload_n hx hb dX4_copyFrom_36 rfl (lv_at hl 2 rfl) ?_
          refine lv_aload_n hx hb dX4_copyFrom_37 rfl (lv_at hl 1 rfl) ?_
          refine r_get C hW (K := RX4) (T := TX4) (N := 3) (v := .ref (A2 (b2 + 2))) 3 0 2 rfl rfl rfl inX4_copyFrom_X4 (by decide) (List.mem_of_getElem? (i := 1) rfl) rfl rfl dX4_copyFrom_38 ?_
          refine lv_iload_n hx hb dX4_copyFrom_41 rfl (lv_at hl 2 rfl) ?_
          obtain ⟨g5, h⟩ := q_g h
          refine r_iald C hW 5 0 rfl rfl g5 dX4_copyFrom_42 ?_
          obtain ⟨g6, h⟩ := q_g h
          refine r_iast C hW (bs' := [[(A b, .inr (4, [.int v2.2.2.1, .ref (A (b + 1)), .ref (A (b + 2))]))], [(A (b + 1), .inl (gI g, v2.2.1, .inl (upd v2.2.2.2.1 (v2.1).toNatClampNeg (y.2.2.1 (v2.1).toNatClampNeg))))], [(A (b + 2), .inl (gI g, v2.2.1, .inl (upd v2.2.2.2.2 (v2.1).toNatClampNeg (y.2.2.2 (v2.1).toNatClampNeg))))], [(A2 b2, .inr (4, [.int y.2.1, .ref (A2 (b2 + 1)), .ref (A2 (b2 + 2))]))], [(A2 (b2 + 1), .inl (gI g, y.1, .inl y.2.2.1))], [(A2 (b2 + 2), .inl (gI g, y.1, .inl y.2.2.2))]]) 2 0 rfl rfl g6 dX4_copyFrom_43 rfl (fun H locs hW => ?_)
          refine lv_iinc (v := (v2.1 + 1)) (lv' := [(2, .int (v2.1 + 1)), (0, .ref (A b)), (1, .ref (A2 b2))]) hx hb dX4_copyFrom_44 hl (k := 2) rfl rfl (by decide) rfl (fun ls hl => ?_)
          refine lv_goto (tgt := 2) hx hb dX4_copyFrom_47 (by decide) ?_
          exact ih2 ((v2.1 + 1), (v2.2.1, v2.2.2.1, (upd v2.2.2.2.1 (v2.1).toNatClampNeg (y.2.2.1 (v2.1).toNatClampNeg)), (upd v2.2.2.2.2 (v2.1).toNatClampNeg (y.2.2.2 (v2.1).toNatClampNeg)))) h _ _ hW _ (lv_sub hl [1, 2, 0] rfl)
  exact L2 3000 (0, x) h _ _ hW _ (lv_sub hl [1, 2, 0] rfl)
def f_X4_paint (x : TX4s) (p1 : Int32) (p2 : Int32) (p3 : Int32) : Option (TX4s) :=
if ((p1 * 16) + p2) < 0 ∨ x.1 ≤ ((p1 * 16) + p2).toNatClampNeg then none else
if ((p1 * 16) + p2) < 0 ∨ x.1 ≤ ((p1 * 16) + p2).toNatClampNeg then none else
some (x.1, x.2.1, (upd x.2.2.1 ((p1 * 16) + p2).toNatClampNeg p3), (upd x.2.2.2 ((p1 * 16) + p2).toNatClampNeg 100))
theorem wo_X4_paint : wordsOk yX4_paint 3 := by decide +kernel
theorem inX4_paint_X4 : ∀ w ∈ wsX40, w ∈ wsX4_paint := fun _ h => List.mem_cons_of_mem _ (List.mem_append_right _ h)
set_option maxHeartbeats 4000000 in
set_option maxRecDepth 100000 in
theorem c_X4_paint (l : Launch) (g : GG) (A : Nat → Nat) (b : Nat) (x : TX4s) (p1 : Int32) (p2 : Int32) (p3 : Int32) (x' : TX4s) (h : f_X4_paint x p1 p2 p3 = some x') : CV l yX4_paint wsX4_paint 0 0 g [.ref (A b), .int p1, .int p2, .int p3] (wX4 g A b x) (wX4 g A b x') := by
  refine CV.mk (own := RX4) (by decide) rfl rfl (Nat.le_of_ble_eq_true rfl) ?_
  intro p e R s m args below meth c Z Q C E hR H hW ls hl
  have hx := C.1.1
  have hb := C.1.2.1
  have hown := C.1.2.2.2.1
  replace hW : WdG g Z s.heap H [] [[(A b, .inr (4, [.int x.2.1, .ref (A (b + 1)), .ref (A (b + 2))]))], [(A (b + 1), .inl (gI g, x.1, .inl x.2.2.1))], [(A (b + 2), .inl (gI g, x.1, .inl x.2.2.2))]] := hW.re rfl
  replace hl : lv_has ls 5 [(0, .ref (A b)), (1, .int p1), (2, .int p2), (3, .int p3)] := hl
  unfold f_X4_paint at h
  refine lv_iload_n hx hb dX4_paint_0 rfl (lv_at hl 1 rfl) ?_
  refine lv_bipush (v := 16) hx hb dX4_paint_1 (by decide) ?_
  refine lv_imul hx hb dX4_paint_3 ?_
  refine lv_iload_n hx hb dX4_paint_4 rfl (lv_at hl 2 rfl) ?_
  refine lv_iadd hx hb dX4_paint_5 ?_
  refine lv_istore (lv' := [(4, .int ((p1 * 16) + p2)), (0, .ref (A b)), (1, .int p1), (2, .int p2), (3, .int p3)]) hx hb dX4_paint_6 hl (by decide) rfl (fun ls hl => ?_)
  refine lv_aload_n hx hb dX4_paint_8 rfl (lv_at hl 1 rfl) ?_
  refine r_get C hW (K := RX4) (T := TX4) (N := 3) (v := .ref (A (b + 1))) 0 0 1 rfl rfl rfl inX4_paint_X4 (by decide) (List.mem_of_getElem? (i := 1) rfl) rfl rfl dX4_paint_9 ?_
  refine lv_iload hx hb dX4_paint_12 (lv_at hl 0 rfl) ?_
  refine lv_iload_n hx hb dX4_paint_14 rfl (lv_at hl 4 rfl) ?_
  obtain ⟨g1, h⟩ := q_g h
  refine r_iast C hW (bs' := [[(A b, .inr (4, [.int x.2.1, .ref (A (b + 1)), .ref (A (b + 2))]))], [(A (b + 1), .inl (gI g, x.1, .inl (upd x.2.2.1 ((p1 * 16) + p2).toNatClampNeg p3)))], [(A (b + 2), .inl (gI g, x.1, .inl x.2.2.2))]]) 1 0 rfl rfl g1 dX4_paint_15 rfl (fun H locs hW => ?_)
  refine lv_aload_n hx hb dX4_paint_16 rfl (lv_at hl 1 rfl) ?_
  refine r_get C hW (K := RX4) (T := TX4) (N := 3) (v := .ref (A (b + 2))) 0 0 2 rfl rfl rfl inX4_paint_X4 (by decide) (List.mem_of_getElem? (i := 2) rfl) rfl rfl dX4_paint_17 ?_
  refine lv_iload hx hb dX4_paint_20 (lv_at hl 0 rfl) ?_
  refine lv_bipush (v := 100) hx hb dX4_paint_22 (by decide) ?_
  obtain ⟨g2, h⟩ := q_g h
  refine r_iast C hW (bs' := [[(A b, .inr (4, [.int x.2.1, .ref (A (b + 1)), .ref (A (b + 2))]))], [(A (b + 1), .inl (gI g, x.1, .inl (upd x.2.2.1 ((p1 * 16) + p2).toNatClampNeg p3)))], [(A (b + 2), .inl (gI g, x.1, .inl (upd x.2.2.2 ((p1 * 16) + p2).toNatClampNeg 100)))]]) 2 0 rfl rfl g2 dX4_paint_24 rfl (fun H locs hW => ?_)
  cases h
  exact E _ _ _ _ _ hW rfl dX4_paint_25
def f_X5_asNumber (p1 : Int32) : Option (Int32) :=
if p1 = 0 then (
some 0)
else (
some 1)
theorem wo_X5_asNumber : wordsOk yX5_asNumber 1 := by decide +kernel
set_option maxHeartbeats 4000000 in
set_option maxRecDepth 100000 in
theorem c_X5_asNumber (l : Launch) (g : GG) (p1 : Int32) (r : Int32) (h : f_X5_asNumber p1 = some r) : CI l yX5_asNumber wsX5_asNumber 0 0 g [.int p1] ([]) r ([]) := by
  refine CI.mk (own := RX5) (by decide) rfl rfl (Nat.le_of_ble_eq_true rfl) ?_
  intro p e R s m args below meth c Z Q C E hR H hW ls hl
  have hx := C.1.1
  have hb := C.1.2.1
  have hown := C.1.2.2.2.1
  replace hW : WdG g Z s.heap H [] [] := hW.re rfl
  replace hl : lv_has ls 1 [(0, .int p1)] := hl
  unfold f_X5_asNumber at h
  refine lv_iload_n hx hb dX5_asNumber_0 rfl (lv_at hl 0 rfl) ?_
  refine lv_if_eq (tgt := 8) hx hb dX5_asNumber_1 (by decide) (fun e1 => ?_) (fun e1 => ?_)
  · replace h := q_t e1 h
    refine lv_iconst (v := 0) hx hb dX5_asNumber_8 (by decide) ?_
    cases h
    exact E _ _ _ _ _ hW rfl rfl dX5_asNumber_9
  · replace h := q_f e1 h
    refine lv_iconst (v := 1) hx hb dX5_asNumber_4 (by decide) ?_
    refine lv_goto (tgt := 9) hx hb dX5_asNumber_5 (by decide) ?_
    cases h
    exact E _ _ _ _ _ hW rfl rfl dX5_asNumber_9
def f_X4_countFrom_j29 (k4 : (Int32 × Int32) → Option (Int32)) (v4 : Int32 × Int32) (w29 : Int32) : Option (Int32) :=
(f_X5_asNumber w29).bind fun t3 =>
k4 ((v4.1 + t3), (v4.2 + 1))
def f_X4_countFrom_l4 (x : TX4s) (p1 : Int32) (k4 : (Int32 × Int32) → Option (Int32)) (v4 : Int32 × Int32) : Option (Int32) :=
if (nI x.1) ≤ v4.2 then (
some v4.1)
else (
if v4.2 < 0 ∨ x.1 ≤ (v4.2).toNatClampNeg then none else
if (x.2.2.2 (v4.2).toNatClampNeg) < p1 then (
f_X4_countFrom_j29 k4 v4 0)
else (
f_X4_countFrom_j29 k4 v4 1))
def f_X4_countFrom (x : TX4s) (p1 : Int32) : Option (Int32) :=
lpN (f_X4_countFrom_l4 x p1) 3000 (0, 0)
theorem wo_X4_countFrom : wordsOk yX4_countFrom 1 := by decide +kernel
theorem inX4_countFrom_X4 : ∀ w ∈ wsX40, w ∈ wsX4_countFrom := fun _ h => List.mem_cons_of_mem _ (List.mem_append_right _ h)
set_option maxHeartbeats 4000000 in
set_option maxRecDepth 100000 in
theorem c_X4_countFrom (l : Launch) (g : GG) (A : Nat → Nat) (b : Nat) (x : TX4s) (p1 : Int32) (r : Int32) (h : f_X4_countFrom x p1 = some r) : CI l yX4_countFrom wsX4_countFrom 1 20 g [.ref (A b), .int p1] (wX4 g A b x) r (wX4 g A b x) := by
  refine CI.mk (own := RX4) (by decide) rfl rfl (Nat.le_of_ble_eq_true rfl) ?_
  intro p e R s m args below meth c Z Q C E hR H hW ls hl
  have hx := C.1.1
  have hb := C.1.2.1
  have hown := C.1.2.2.2.1
  replace hW : WdG g Z s.heap H [] [[(A b, .inr (4, [.int x.2.1, .ref (A (b + 1)), .ref (A (b + 2))]))], [(A (b + 1), .inl (gI g, x.1, .inl x.2.2.1))], [(A (b + 2), .inl (gI g, x.1, .inl x.2.2.2))]] := hW.re rfl
  replace hl : lv_has ls 4 [(0, .ref (A b)), (1, .int p1)] := hl
  unfold f_X4_countFrom at h
  refine lv_iconst (v := 0) hx hb dX4_countFrom_0 (by decide) ?_
  refine lv_istore_n (lv' := [(2, .int 0), (0, .ref (A b)), (1, .int p1)]) hx hb dX4_countFrom_1 rfl hl (by decide) rfl (fun ls hl => ?_)
  refine lv_iconst (v := 0) hx hb dX4_countFrom_2 (by decide) ?_
  refine lv_istore_n (lv' := [(3, .int 0), (2, .int 0), (0, .ref (A b)), (1, .int p1)]) hx hb dX4_countFrom_3 rfl hl (by decide) rfl (fun ls hl => ?_)
  have L4 : ∀ n4 : Nat, ∀ (v4 : Int32 × Int32), lpN (f_X4_countFrom_l4 x p1) n4 v4 = some r → ∀ (H : Heap) (locs : List Loc), WdG g Z s.heap H locs [[(A b, .inr (4, [.int x.2.1, .ref (A (b + 1)), .ref (A (b + 2))]))], [(A (b + 1), .inl (gI g, x.1, .inl x.2.2.1))], [(A (b + 2), .inl (gI g, x.1, .inl x.2.2.2))]] → ∀ ls : Array Slot, lv_has ls 4 [(0, .ref (A b)), (1, .int p1), (2, .int v4.1), (3, .int v4.2)] → W p l e R s m args below meth c H locs 0 0 Q (F0 m 4 ls []) := by
    intro n4
    induction n4 with
    | zero => intro v4 h; exact absurd (show none = some r from h) (fun h => by cases h)
    | succ n4 ih4 =>
      intro v4 h H locs hW ls hl
      replace h : f_X4_countFrom_l4 x p1 (lpN (f_X4_countFrom_l4 x p1) n4) v4 = some r := h
      unfold f_X4_countFrom_l4 at h
      refine lv_iload_n hx hb dX4_countFrom_4 rfl (lv_at hl 3 rfl) ?_
      refine lv_aload_n hx hb dX4_countFrom_5 rfl (lv_at hl 0 rfl) ?_
      refine r_get C hW (K := RX4) (T := TX4) (N := 3) (v := .ref (A (b + 2))) 0 0 2 rfl rfl rfl inX4_countFrom_X4 (by decide) (List.mem_of_getElem? (i := 1) rfl) rfl rfl dX4_countFrom_6 ?_
      refine r_alen C hW 2 0 rfl rfl dX4_countFrom_9 ?_
      refine lv_icmp_ge (tgt := 40) hx hb dX4_countFrom_10 (by decide) (fun e1 => ?_) (fun e1 => ?_)
      · replace h := q_t e1 h
        refine lv_iload_n hx hb dX4_countFrom_40 rfl (lv_at hl 2 rfl) ?_
        cases h
        exact E _ _ _ _ _ hW rfl rfl dX4_countFrom_41
      · replace h := q_f e1 h
        refine lv_iload_n hx hb dX4_countFrom_13 rfl (lv_at hl 2 rfl) ?_
        refine lv_aload_n hx hb dX4_countFrom_14 rfl (lv_at hl 0 rfl) ?_
        refine r_get C hW (K := RX4) (T := TX4) (N := 3) (v := .ref (A (b + 2))) 0 0 2 rfl rfl rfl inX4_countFrom_X4 (by decide) (List.mem_of_getElem? (i := 1) rfl) rfl rfl dX4_countFrom_15 ?_
        refine lv_iload_n hx hb dX4_countFrom_18 rfl (lv_at hl 3 rfl) ?_
        obtain ⟨g2, h⟩ := q_g h
        refine r_iald C hW 2 0 rfl rfl g2 dX4_countFrom_19 ?_
        refine lv_iload_n hx hb dX4_countFrom_20 rfl (lv_at hl 1 rfl) ?_
        have J29 : ∀ (w29 : Int32), f_X4_countFrom_j29 (lpN (f_X4_countFrom_l4 x p1) n4) v4 w29 = some r → ∀ (H : Heap) (locs : List Loc), WdG g Z s.heap H locs [[(A b, .inr (4, [.int x.2.1, .ref (A (b + 1)), .ref (A (b + 2))]))], [(A (b + 1), .inl (gI g, x.1, .inl x.2.2.1))], [(A (b + 2), .inl (gI g, x.1, .inl x.2.2.2))]] → ∀ ls : Array Slot, lv_has ls 4 [(0, .ref (A b)), (1, .int p1), (3, .int v4.2)] → W p l e R s m args below meth c H locs 0 0 Q (F0 m 29 ls [.int w29, .int v4.1]) := by
          intro w29 h H locs hW ls hl
          unfold f_X4_countFrom_j29 at h
          obtain ⟨t3, h4, h⟩ := q_b h
          refine r_cNi C hW (nA := 1) (As := [.int w29]) (rest := [.int v4.1]) (c_X5_asNumber l g w29 _ h4) gX4_countFrom_X5_asNumber_n32 rfl (List.mem_of_getElem? (i := 12) rfl) (List.mem_of_getElem? (i := 3) rfl) (List.mem_of_getElem? (i := 2) rfl) wo_X5_asNumber (rmk hR rfl rfl) rfl rfl hl.1 (Nat.le_of_ble_eq_true rfl) rz dX4_countFrom_29 (n := 3) (is := []) (rs := [0, 1, 2]) (bs' := [[(A b, .inr (4, [.int x.2.1, .ref (A (b + 1)), .ref (A (b + 2))]))], [(A (b + 1), .inl (gI g, x.1, .inl x.2.2.1))], [(A (b + 2), .inl (gI g, x.1, .inl x.2.2.2))]]) rfl rfl pm_783ef816 rfl rfl rfl (fun H locs hW => ?_)
          refine lv_iadd hx hb dX4_countFrom_32 ?_
          refine lv_istore_n (lv' := [(2, .int (v4.1 + t3)), (0, .ref (A b)), (1, .int p1), (3, .int v4.2)]) hx hb dX4_countFrom_33 rfl hl (by decide) rfl (fun ls hl => ?_)
          refine lv_iinc (v := (v4.2 + 1)) (lv' := [(3, .int (v4.2 + 1)), (2, .int (v4.1 + t3)), (0, .ref (A b)), (1, .int p1)]) hx hb dX4_countFrom_34 hl (k := 3) rfl rfl (by decide) rfl (fun ls hl => ?_)
          refine lv_goto (tgt := 4) hx hb dX4_countFrom_37 (by decide) ?_
          exact ih4 ((v4.1 + t3), (v4.2 + 1)) h _ _ hW _ (lv_sub hl [2, 3, 1, 0] rfl)
        refine lv_icmp_lt (tgt := 28) hx hb dX4_countFrom_21 (by decide) (fun e5 => ?_) (fun e5 => ?_)
        · replace h := q_t e5 h
          refine lv_iconst (v := 0) hx hb dX4_countFrom_28 (by decide) ?_
          exact J29 0 h _ _ hW _ (lv_sub hl [0, 1, 3] rfl)
        · replace h := q_f e5 h
          refine lv_iconst (v := 1) hx hb dX4_countFrom_24 (by decide) ?_
          refine lv_goto (tgt := 29) hx hb dX4_countFrom_25 (by decide) ?_
          exact J29 1 h _ _ hW _ (lv_sub hl [0, 1, 3] rfl)
  exact L4 3000 (0, 0) h _ _ hW _ (lv_sub hl [2, 3, 1, 0] rfl)
def f_X4_count (x : TX4s) : Option (Int32) :=
(f_X4_countFrom x 1).bind fun t1 =>
some t1
theorem wo_X4_count : wordsOk yX4_count 0 := by decide +kernel
set_option maxHeartbeats 4000000 in
set_option maxRecDepth 100000 in
theorem c_X4_count (l : Launch) (g : GG) (A : Nat → Nat) (b : Nat) (x : TX4s) (r : Int32) (h : f_X4_count x = some r) : CI l yX4_count wsX4_count 2 43 g [.ref (A b)] (wX4 g A b x) r (wX4 g A b x) := by
  refine CI.mk (own := RX4) (by decide) rfl rfl (Nat.le_of_ble_eq_true rfl) ?_
  intro p e R s m args below meth c Z Q C E hR H hW ls hl
  have hx := C.1.1
  have hb := C.1.2.1
  have hown := C.1.2.2.2.1
  replace hW : WdG g Z s.heap H [] [[(A b, .inr (4, [.int x.2.1, .ref (A (b + 1)), .ref (A (b + 2))]))], [(A (b + 1), .inl (gI g, x.1, .inl x.2.2.1))], [(A (b + 2), .inl (gI g, x.1, .inl x.2.2.2))]] := hW.re rfl
  replace hl : lv_has ls 1 [(0, .ref (A b))] := hl
  unfold f_X4_count at h
  refine lv_aload_n hx hb dX4_count_0 rfl (lv_at hl 0 rfl) ?_
  refine lv_iconst (v := 1) hx hb dX4_count_1 (by decide) ?_
  obtain ⟨t1, h2, h⟩ := q_b h
  refine r_cVi C hW (nA := 1) (As := [.int 1]) (rest := []) (c_X4_countFrom l g A b x 1 _ h2) gX4_count_X4_countFrom rfl ⟨rfl, wo_X4_countFrom⟩ (rmk hR rfl rfl) rfl rfl rfl rfl hl.1 (Nat.le_of_ble_eq_true rfl) rz dX4_count_2 (n := 3) (is := [0, 1, 2]) (rs := []) (bs' := [[(A b, .inr (4, [.int x.2.1, .ref (A (b + 1)), .ref (A (b + 2))]))], [(A (b + 1), .inl (gI g, x.1, .inl x.2.2.1))], [(A (b + 2), .inl (gI g, x.1, .inl x.2.2.2))]]) rfl rfl pm_a4c891c0 rfl rfl rfl (fun H locs hW => ?_)
  cases h
  exact E _ _ _ _ _ hW rfl rfl dX4_count_5
def f_X4_weaken (x : TX4s) (p1 : Int32) (p2 : Int32) (p3 : Int32) : Option (Int32 × TX4s) :=
if ((p1 * 16) + p2) < 0 ∨ x.1 ≤ ((p1 * 16) + p2).toNatClampNeg then none else
if (x.2.2.2 ((p1 * 16) + p2).toNatClampNeg) = 0 then (
some (0, x))
else (
if ((p1 * 16) + p2) < 0 ∨ x.1 ≤ ((p1 * 16) + p2).toNatClampNeg then none else
if ((p1 * 16) + p2) < 0 ∨ x.1 ≤ ((p1 * 16) + p2).toNatClampNeg then none else
if ((p1 * 16) + p2) < 0 ∨ x.1 ≤ ((p1 * 16) + p2).toNatClampNeg then none else
if ((upd x.2.2.2 ((p1 * 16) + p2).toNatClampNeg (if (0 : Int32) < ((x.2.2.2 ((p1 * 16) + p2).toNatClampNeg) - p3) then ((x.2.2.2 ((p1 * 16) + p2).toNatClampNeg) - p3) else (0 : Int32))) ((p1 * 16) + p2).toNatClampNeg) = 0 then (
(f_X5_asNumber 1).bind fun t9 =>
some (t9, (x.1, x.2.1, x.2.2.1, (upd x.2.2.2 ((p1 * 16) + p2).toNatClampNeg (if (0 : Int32) < ((x.2.2.2 ((p1 * 16) + p2).toNatClampNeg) - p3) then ((x.2.2.2 ((p1 * 16) + p2).toNatClampNeg) - p3) else (0 : Int32))))))
else (
(f_X5_asNumber 0).bind fun t7 =>
some (t7, (x.1, x.2.1, x.2.2.1, (upd x.2.2.2 ((p1 * 16) + p2).toNatClampNeg (if (0 : Int32) < ((x.2.2.2 ((p1 * 16) + p2).toNatClampNeg) - p3) then ((x.2.2.2 ((p1 * 16) + p2).toNatClampNeg) - p3) else (0 : Int32)))))))
theorem wo_X4_weaken : wordsOk yX4_weaken 3 := by decide +kernel
theorem inX4_weaken_X4 : ∀ w ∈ wsX40, w ∈ wsX4_weaken := fun _ h => List.mem_cons_of_mem _ (List.mem_append_right _ h)
set_option maxHeartbeats 4000000 in
set_option maxRecDepth 100000 in
theorem c_X4_weaken (l : Launch) (g : GG) (A : Nat → Nat) (b : Nat) (x : TX4s) (p1 : Int32) (p2 : Int32) (p3 : Int32) (r : Int32) (x' : TX4s) (h : f_X4_weaken x p1 p2 p3 = some (r, x')) : CI l yX4_weaken wsX4_weaken 1 30 g [.ref (A b), .int p1, .int p2, .int p3] (wX4 g A b x) r (wX4 g A b x') := by
  refine CI.mk (own := RX4) (by decide) rfl rfl (Nat.le_of_ble_eq_true rfl) ?_
  intro p e R s m args below meth c Z Q C E hR H hW ls hl
  have hx := C.1.1
  have hb := C.1.2.1
  have hown := C.1.2.2.2.1
  replace hW : WdG g Z s.heap H [] [[(A b, .inr (4, [.int x.2.1, .ref (A (b + 1)), .ref (A (b + 2))]))], [(A (b + 1), .inl (gI g, x.1, .inl x.2.2.1))], [(A (b + 2), .inl (gI g, x.1, .inl x.2.2.2))]] := hW.re rfl
  replace hl : lv_has ls 5 [(0, .ref (A b)), (1, .int p1), (2, .int p2), (3, .int p3)] := hl
  unfold f_X4_weaken at h
  refine lv_iload_n hx hb dX4_weaken_0 rfl (lv_at hl 1 rfl) ?_
  refine lv_bipush (v := 16) hx hb dX4_weaken_1 (by decide) ?_
  refine lv_imul hx hb dX4_weaken_3 ?_
  refine lv_iload_n hx hb dX4_weaken_4 rfl (lv_at hl 2 rfl) ?_
  refine lv_iadd hx hb dX4_weaken_5 ?_
  refine lv_istore (lv' := [(4, .int ((p1 * 16) + p2)), (0, .ref (A b)), (1, .int p1), (2, .int p2), (3, .int p3)]) hx hb dX4_weaken_6 hl (by decide) rfl (fun ls hl => ?_)
  refine lv_aload_n hx hb dX4_weaken_8 rfl (lv_at hl 1 rfl) ?_
  refine r_get C hW (K := RX4) (T := TX4) (N := 3) (v := .ref (A (b + 2))) 0 0 2 rfl rfl rfl inX4_weaken_X4 (by decide) (List.mem_of_getElem? (i := 1) rfl) rfl rfl dX4_weaken_9 ?_
  refine lv_iload hx hb dX4_weaken_12 (lv_at hl 0 rfl) ?_
  obtain ⟨g1, h⟩ := q_g h
  refine r_iald C hW 2 0 rfl rfl g1 dX4_weaken_14 ?_
  refine lv_if_ne (tgt := 20) hx hb dX4_weaken_15 (by decide) (fun e2 => ?_) (fun e2 => ?_)
  · replace h := q_f e2 h
    refine lv_aload_n hx hb dX4_weaken_20 rfl (lv_at hl 1 rfl) ?_
    refine r_get C hW (K := RX4) (T := TX4) (N := 3) (v := .ref (A (b + 2))) 0 0 2 rfl rfl rfl inX4_weaken_X4 (by decide) (List.mem_of_getElem? (i := 1) rfl) rfl rfl dX4_weaken_21 ?_
    refine lv_iload hx hb dX4_weaken_24 (lv_at hl 0 rfl) ?_
    refine lv_iconst (v := 0) hx hb dX4_weaken_26 (by decide) ?_
    refine lv_aload_n hx hb dX4_weaken_27 rfl (lv_at hl 1 rfl) ?_
    refine r_get C hW (K := RX4) (T := TX4) (N := 3) (v := .ref (A (b + 2))) 0 0 2 rfl rfl rfl inX4_weaken_X4 (by decide) (List.mem_of_getElem? (i := 1) rfl) rfl rfl dX4_weaken_28 ?_
    refine lv_iload hx hb dX4_weaken_31 (lv_at hl 0 rfl) ?_
    obtain ⟨g3, h⟩ := q_g h
    refine r_iald C hW 2 0 rfl rfl g3 dX4_weaken_33 ?_
    refine lv_iload_n hx hb dX4_weaken_34 rfl (lv_at hl 4 rfl) ?_
    refine lv_isub hx hb dX4_weaken_35 ?_
    refine r_max C hl.1 (List.mem_of_getElem? (i := 2) rfl) (List.mem_of_getElem? (i := 3) rfl) (List.mem_of_getElem? (i := 4) rfl) (List.mem_of_getElem? (i := 5) rfl) (rmk hR rfl rfl) rz dX4_weaken_36 ?_
    obtain ⟨g4, h⟩ := q_g h
    refine r_iast C hW (bs' := [[(A b, .inr (4, [.int x.2.1, .ref (A (b + 1)), .ref (A (b + 2))]))], [(A (b + 1), .inl (gI g, x.1, .inl x.2.2.1))], [(A (b + 2), .inl (gI g, x.1, .inl (upd x.2.2.2 ((p1 * 16) + p2).toNatClampNeg (if (0 : Int32) < ((x.2.2.2 ((p1 * 16) + p2).toNatClampNeg) - p3) then ((x.2.2.2 ((p1 * 16) + p2).toNatClampNeg) - p3) else (0 : Int32)))))]]) 2 0 rfl rfl g4 dX4_weaken_39 rfl (fun H locs hW => ?_)
    refine lv_aload_n hx hb dX4_weaken_40 rfl (lv_at hl 1 rfl) ?_
    refine r_get C hW (K := RX4) (T := TX4) (N := 3) (v := .ref (A (b + 2))) 0 0 2 rfl rfl rfl inX4_weaken_X4 (by decide) (List.mem_of_getElem? (i := 1) rfl) rfl rfl dX4_weaken_41 ?_
    refine lv_iload hx hb dX4_weaken_44 (lv_at hl 0 rfl) ?_
    obtain ⟨g5, h⟩ := q_g h
    refine r_iald C hW 2 0 rfl rfl g5 dX4_weaken_46 ?_
    refine lv_if_ne (tgt := 54) hx hb dX4_weaken_47 (by decide) (fun e6 => ?_) (fun e6 => ?_)
    · replace h := q_f e6 h
      refine lv_iconst (v := 0) hx hb dX4_weaken_54 (by decide) ?_
      obtain ⟨t7, h8, h⟩ := q_b h
      refine r_cNi C hW (nA := 1) (As := [.int 0]) (rest := []) (c_X5_asNumber l g 0 _ h8) gX4_weaken_X5_asNumber_n32 rfl (List.mem_of_getElem? (i := 12) rfl) (List.mem_of_getElem? (i := 7) rfl) (List.mem_of_getElem? (i := 6) rfl) wo_X5_asNumber (rmk hR rfl rfl) rfl rfl hl.1 (Nat.le_of_ble_eq_true rfl) rz dX4_weaken_55 (n := 3) (is := []) (rs := [0, 1, 2]) (bs' := [[(A b, .inr (4, [.int x.2.1, .ref (A (b + 1)), .ref (A (b + 2))]))], [(A (b + 1), .inl (gI g, x.1, .inl x.2.2.1))], [(A (b + 2), .inl (gI g, x.1, .inl (upd x.2.2.2 ((p1 * 16) + p2).toNatClampNeg (if (0 : Int32) < ((x.2.2.2 ((p1 * 16) + p2).toNatClampNeg) - p3) then ((x.2.2.2 ((p1 * 16) + p2).toNatClampNeg) - p3) else (0 : Int32)))))]]) rfl rfl pm_783ef816 rfl rfl rfl (fun H locs hW => ?_)
      cases h
      exact E _ _ _ _ _ hW rfl rfl dX4_weaken_58
    · replace h := q_t e6 h
      refine lv_iconst (v := 1) hx hb dX4_weaken_50 (by decide) ?_
      refine lv_goto (tgt := 55) hx hb dX4_weaken_51 (by decide) ?_
      obtain ⟨t9, h10, h⟩ := q_b h
      refine r_cNi C hW (nA := 1) (As := [.int 1]) (rest := []) (c_X5_asNumber l g 1 _ h10) gX4_weaken_X5_asNumber_n32 rfl (List.mem_of_getElem? (i := 12) rfl) (List.mem_of_getElem? (i := 7) rfl) (List.mem_of_getElem? (i := 6) rfl) wo_X5_asNumber (rmk hR rfl rfl) rfl rfl hl.1 (Nat.le_of_ble_eq_true rfl) rz dX4_weaken_55 (n := 3) (is := []) (rs := [0, 1, 2]) (bs' := [[(A b, .inr (4, [.int x.2.1, .ref (A (b + 1)), .ref (A (b + 2))]))], [(A (b + 1), .inl (gI g, x.1, .inl x.2.2.1))], [(A (b + 2), .inl (gI g, x.1, .inl (upd x.2.2.2 ((p1 * 16) + p2).toNatClampNeg (if (0 : Int32) < ((x.2.2.2 ((p1 * 16) + p2).toNatClampNeg) - p3) then ((x.2.2.2 ((p1 * 16) + p2).toNatClampNeg) - p3) else (0 : Int32)))))]]) rfl rfl pm_783ef816 rfl rfl rfl (fun H locs hW => ?_)
      cases h
      exact E _ _ _ _ _ hW rfl rfl dX4_weaken_58
  · replace h := q_t e2 h
    refine lv_iconst (v := 0) hx hb dX4_weaken_18 (by decide) ?_
    cases h
    exact E _ _ _ _ _ hW rfl rfl dX4_weaken_19
def f_X4_remove (x : TX4s) (p1 : Int32) (p2 : Int32) : Option (Int32 × TX4s) :=
(f_X4_weaken x p1 p2 100).bind fun t1 =>
some (t1.1, t1.2)
theorem wo_X4_remove : wordsOk yX4_remove 2 := by decide +kernel
set_option maxHeartbeats 4000000 in
set_option maxRecDepth 100000 in
theorem c_X4_remove (l : Launch) (g : GG) (A : Nat → Nat) (b : Nat) (x : TX4s) (p1 : Int32) (p2 : Int32) (r : Int32) (x' : TX4s) (h : f_X4_remove x p1 p2 = some (r, x')) : CI l yX4_remove wsX4_remove 2 54 g [.ref (A b), .int p1, .int p2] (wX4 g A b x) r (wX4 g A b x') := by
  refine CI.mk (own := RX4) (by decide) rfl rfl (Nat.le_of_ble_eq_true rfl) ?_
  intro p e R s m args below meth c Z Q C E hR H hW ls hl
  have hx := C.1.1
  have hb := C.1.2.1
  have hown := C.1.2.2.2.1
  replace hW : WdG g Z s.heap H [] [[(A b, .inr (4, [.int x.2.1, .ref (A (b + 1)), .ref (A (b + 2))]))], [(A (b + 1), .inl (gI g, x.1, .inl x.2.2.1))], [(A (b + 2), .inl (gI g, x.1, .inl x.2.2.2))]] := hW.re rfl
  replace hl : lv_has ls 3 [(0, .ref (A b)), (1, .int p1), (2, .int p2)] := hl
  unfold f_X4_remove at h
  refine lv_aload_n hx hb dX4_remove_0 rfl (lv_at hl 0 rfl) ?_
  refine lv_iload_n hx hb dX4_remove_1 rfl (lv_at hl 1 rfl) ?_
  refine lv_iload_n hx hb dX4_remove_2 rfl (lv_at hl 2 rfl) ?_
  refine lv_bipush (v := 100) hx hb dX4_remove_3 (by decide) ?_
  obtain ⟨t1, h2, h⟩ := q_b h
  refine r_cVi C hW (nA := 3) (As := [.int p1, .int p2, .int 100]) (rest := []) (c_X4_weaken l g A b x p1 p2 100 _ _ h2) gX4_remove_X4_weaken rfl ⟨rfl, wo_X4_weaken⟩ (rmk hR rfl rfl) rfl rfl rfl rfl hl.1 (Nat.le_of_ble_eq_true rfl) rz dX4_remove_5 (n := 3) (is := [0, 1, 2]) (rs := []) (bs' := [[(A b, .inr (4, [.int t1.2.2.1, .ref (A (b + 1)), .ref (A (b + 2))]))], [(A (b + 1), .inl (gI g, t1.2.1, .inl t1.2.2.2.1))], [(A (b + 2), .inl (gI g, t1.2.1, .inl t1.2.2.2.2))]]) rfl rfl pm_a4c891c0 rfl rfl rfl (fun H locs hW => ?_)
  cases h
  exact E _ _ _ _ _ hW rfl rfl dX4_remove_8
def f_X4_strengthAt (x : TX4s) (p1 : Int32) (p2 : Int32) : Option (Int32) :=
if ((p1 * 16) + p2) < 0 ∨ x.1 ≤ ((p1 * 16) + p2).toNatClampNeg then none else
some (x.2.2.2 ((p1 * 16) + p2).toNatClampNeg)
theorem wo_X4_strengthAt : wordsOk yX4_strengthAt 2 := by decide +kernel
theorem inX4_strengthAt_X4 : ∀ w ∈ wsX40, w ∈ wsX4_strengthAt := fun _ h => List.mem_cons_of_mem _ (List.mem_append_right _ h)
set_option maxHeartbeats 4000000 in
set_option maxRecDepth 100000 in
theorem c_X4_strengthAt (l : Launch) (g : GG) (A : Nat → Nat) (b : Nat) (x : TX4s) (p1 : Int32) (p2 : Int32) (r : Int32) (h : f_X4_strengthAt x p1 p2 = some r) : CI l yX4_strengthAt wsX4_strengthAt 0 0 g [.ref (A b), .int p1, .int p2] (wX4 g A b x) r (wX4 g A b x) := by
  refine CI.mk (own := RX4) (by decide) rfl rfl (Nat.le_of_ble_eq_true rfl) ?_
  intro p e R s m args below meth c Z Q C E hR H hW ls hl
  have hx := C.1.1
  have hb := C.1.2.1
  have hown := C.1.2.2.2.1
  replace hW : WdG g Z s.heap H [] [[(A b, .inr (4, [.int x.2.1, .ref (A (b + 1)), .ref (A (b + 2))]))], [(A (b + 1), .inl (gI g, x.1, .inl x.2.2.1))], [(A (b + 2), .inl (gI g, x.1, .inl x.2.2.2))]] := hW.re rfl
  replace hl : lv_has ls 3 [(0, .ref (A b)), (1, .int p1), (2, .int p2)] := hl
  unfold f_X4_strengthAt at h
  refine lv_aload_n hx hb dX4_strengthAt_0 rfl (lv_at hl 0 rfl) ?_
  refine r_get C hW (K := RX4) (T := TX4) (N := 3) (v := .ref (A (b + 2))) 0 0 2 rfl rfl rfl inX4_strengthAt_X4 (by decide) (List.mem_of_getElem? (i := 1) rfl) rfl rfl dX4_strengthAt_1 ?_
  refine lv_iload_n hx hb dX4_strengthAt_4 rfl (lv_at hl 1 rfl) ?_
  refine lv_bipush (v := 16) hx hb dX4_strengthAt_5 (by decide) ?_
  refine lv_imul hx hb dX4_strengthAt_7 ?_
  refine lv_iload_n hx hb dX4_strengthAt_8 rfl (lv_at hl 2 rfl) ?_
  refine lv_iadd hx hb dX4_strengthAt_9 ?_
  obtain ⟨g1, h⟩ := q_g h
  refine r_iald C hW 2 0 rfl rfl g1 dX4_strengthAt_10 ?_
  cases h
  exact E _ _ _ _ _ hW rfl rfl dX4_strengthAt_11
def f_X4_isFaded (x : TX4s) (p1 : Int32) (p2 : Int32) : Option (Int32) :=
if ((p1 * 16) + p2) < 0 ∨ x.1 ≤ ((p1 * 16) + p2).toNatClampNeg then none else
if (x.2.2.2 ((p1 * 16) + p2).toNatClampNeg) ≤ 0 then (
some 0)
else (
if 60 ≤ (x.2.2.2 ((p1 * 16) + p2).toNatClampNeg) then (
some 0)
else (
some 1))
theorem wo_X4_isFaded : wordsOk yX4_isFaded 2 := by decide +kernel
theorem inX4_isFaded_X4 : ∀ w ∈ wsX40, w ∈ wsX4_isFaded := fun _ h => List.mem_cons_of_mem _ (List.mem_append_right _ h)
set_option maxHeartbeats 4000000 in
set_option maxRecDepth 100000 in
theorem c_X4_isFaded (l : Launch) (g : GG) (A : Nat → Nat) (b : Nat) (x : TX4s) (p1 : Int32) (p2 : Int32) (r : Int32) (h : f_X4_isFaded x p1 p2 = some r) : CI l yX4_isFaded wsX4_isFaded 0 0 g [.ref (A b), .int p1, .int p2] (wX4 g A b x) r (wX4 g A b x) := by
  refine CI.mk (own := RX4) (by decide) rfl rfl (Nat.le_of_ble_eq_true rfl) ?_
  intro p e R s m args below meth c Z Q C E hR H hW ls hl
  have hx := C.1.1
  have hb := C.1.2.1
  have hown := C.1.2.2.2.1
  replace hW : WdG g Z s.heap H [] [[(A b, .inr (4, [.int x.2.1, .ref (A (b + 1)), .ref (A (b + 2))]))], [(A (b + 1), .inl (gI g, x.1, .inl x.2.2.1))], [(A (b + 2), .inl (gI g, x.1, .inl x.2.2.2))]] := hW.re rfl
  replace hl : lv_has ls 4 [(0, .ref (A b)), (1, .int p1), (2, .int p2)] := hl
  unfold f_X4_isFaded at h
  refine lv_aload_n hx hb dX4_isFaded_0 rfl (lv_at hl 0 rfl) ?_
  refine r_get C hW (K := RX4) (T := TX4) (N := 3) (v := .ref (A (b + 2))) 0 0 2 rfl rfl rfl inX4_isFaded_X4 (by decide) (List.mem_of_getElem? (i := 1) rfl) rfl rfl dX4_isFaded_1 ?_
  refine lv_iload_n hx hb dX4_isFaded_4 rfl (lv_at hl 1 rfl) ?_
  refine lv_bipush (v := 16) hx hb dX4_isFaded_5 (by decide) ?_
  refine lv_imul hx hb dX4_isFaded_7 ?_
  refine lv_iload_n hx hb dX4_isFaded_8 rfl (lv_at hl 2 rfl) ?_
  refine lv_iadd hx hb dX4_isFaded_9 ?_
  obtain ⟨g1, h⟩ := q_g h
  refine r_iald C hW 2 0 rfl rfl g1 dX4_isFaded_10 ?_
  refine lv_istore_n (lv' := [(3, .int (x.2.2.2 ((p1 * 16) + p2).toNatClampNeg)), (0, .ref (A b)), (1, .int p1), (2, .int p2)]) hx hb dX4_isFaded_11 rfl hl (by decide) rfl (fun ls hl => ?_)
  refine lv_iload_n hx hb dX4_isFaded_12 rfl (lv_at hl 0 rfl) ?_
  refine lv_if_le (tgt := 26) hx hb dX4_isFaded_13 (by decide) (fun e2 => ?_) (fun e2 => ?_)
  · replace h := q_t e2 h
    refine lv_iconst (v := 0) hx hb dX4_isFaded_26 (by decide) ?_
    cases h
    exact E _ _ _ _ _ hW rfl rfl dX4_isFaded_27
  · replace h := q_f e2 h
    refine lv_iload_n hx hb dX4_isFaded_16 rfl (lv_at hl 0 rfl) ?_
    refine lv_bipush (v := 60) hx hb dX4_isFaded_17 (by decide) ?_
    refine lv_icmp_ge (tgt := 26) hx hb dX4_isFaded_19 (by decide) (fun e3 => ?_) (fun e3 => ?_)
    · replace h := q_t e3 h
      refine lv_iconst (v := 0) hx hb dX4_isFaded_26 (by decide) ?_
      cases h
      exact E _ _ _ _ _ hW rfl rfl dX4_isFaded_27
    · replace h := q_f e3 h
      refine lv_iconst (v := 1) hx hb dX4_isFaded_22 (by decide) ?_
      refine lv_goto (tgt := 27) hx hb dX4_isFaded_23 (by decide) ?_
      cases h
      exact E _ _ _ _ _ hW rfl rfl dX4_isFaded_27
def f_X4_repaintFaded_l5 (p1 : Int32) (p2 : Int32) (k5 : (Int32 × Int32 × TX4s) → Option (Int32 × TX4s)) (v5 : Int32 × Int32 × TX4s) : Option (Int32 × TX4s) :=
if v5.2.2.2.1 ≤ v5.2.1 then (
some (v5.1, v5.2.2))
else (
if p2 ≤ v5.1 then (
some (v5.1, v5.2.2))
else (
(f_X4_isFaded v5.2.2 v5.2.1 p1).bind fun t3 =>
if t3 = 0 then (
k5 (v5.1, (v5.2.1 + 1), v5.2.2))
else (
if ((v5.2.1 * 16) + p1) < 0 ∨ v5.2.2.1 ≤ ((v5.2.1 * 16) + p1).toNatClampNeg then none else
k5 ((v5.1 + 1), (v5.2.1 + 1), (v5.2.2.1, v5.2.2.2.1, v5.2.2.2.2.1, (upd v5.2.2.2.2.2 ((v5.2.1 * 16) + p1).toNatClampNeg 100))))))
def f_X4_repaintFaded (x : TX4s) (p1 : Int32) (p2 : Int32) : Option (Int32 × TX4s) :=
lpN (f_X4_repaintFaded_l5 p1 p2) 3000 (0, 0, x)
theorem wo_X4_repaintFaded : wordsOk yX4_repaintFaded 2 := by decide +kernel
theorem inX4_repaintFaded_X4 : ∀ w ∈ wsX40, w ∈ wsX4_repaintFaded := fun _ h => List.mem_cons_of_mem _ (List.mem_append_right _ h)
set_option maxHeartbeats 4000000 in
set_option maxRecDepth 100000 in
theorem c_X4_repaintFaded (l : Launch) (g : GG) (A : Nat → Nat) (b : Nat) (x : TX4s) (p1 : Int32) (p2 : Int32) (r : Int32) (x' : TX4s) (h : f_X4_repaintFaded x p1 p2 = some (r, x')) : CI l yX4_repaintFaded wsX4_repaintFaded 1 23 g [.ref (A b), .int p1, .int p2] (wX4 g A b x) r (wX4 g A b x') := by
  refine CI.mk (own := RX4) (by decide) rfl rfl (Nat.le_of_ble_eq_true rfl) ?_
  intro p e R s m args below meth c Z Q C E hR H hW ls hl
  have hx := C.1.1
  have hb := C.1.2.1
  have hown := C.1.2.2.2.1
  replace hW : WdG g Z s.heap H [] [[(A b, .inr (4, [.int x.2.1, .ref (A (b + 1)), .ref (A (b + 2))]))], [(A (b + 1), .inl (gI g, x.1, .inl x.2.2.1))], [(A (b + 2), .inl (gI g, x.1, .inl x.2.2.2))]] := hW.re rfl
  replace hl : lv_has ls 5 [(0, .ref (A b)), (1, .int p1), (2, .int p2)] := hl
  unfold f_X4_repaintFaded at h
  refine lv_iconst (v := 0) hx hb dX4_repaintFaded_0 (by decide) ?_
  refine lv_istore_n (lv' := [(3, .int 0), (0, .ref (A b)), (1, .int p1), (2, .int p2)]) hx hb dX4_repaintFaded_1 rfl hl (by decide) rfl (fun ls hl => ?_)
  refine lv_iconst (v := 0) hx hb dX4_repaintFaded_2 (by decide) ?_
  refine lv_istore (lv' := [(4, .int 0), (3, .int 0), (0, .ref (A b)), (1, .int p1), (2, .int p2)]) hx hb dX4_repaintFaded_3 hl (by decide) rfl (fun ls hl => ?_)
  have L5 : ∀ n5 : Nat, ∀ (v5 : Int32 × Int32 × TX4s), lpN (f_X4_repaintFaded_l5 p1 p2) n5 v5 = some (r, x') → ∀ (H : Heap) (locs : List Loc), WdG g Z s.heap H locs [[(A b, .inr (4, [.int v5.2.2.2.1, .ref (A (b + 1)), .ref (A (b + 2))]))], [(A (b + 1), .inl (gI g, v5.2.2.1, .inl v5.2.2.2.2.1))], [(A (b + 2), .inl (gI g, v5.2.2.1, .inl v5.2.2.2.2.2))]] → ∀ ls : Array Slot, lv_has ls 5 [(0, .ref (A b)), (1, .int p1), (2, .int p2), (3, .int v5.1), (4, .int v5.2.1)] → W p l e R s m args below meth c H locs 0 0 Q (F0 m 5 ls []) := by
    intro n5
    induction n5 with
    | zero => intro v5 h; exact absurd (show none = some (r, x') from h) (fun h => by cases h)
    | succ n5 ih5 =>
      intro v5 h H locs hW ls hl
      replace h : f_X4_repaintFaded_l5 p1 p2 (lpN (f_X4_repaintFaded_l5 p1 p2) n5) v5 = some (r, x') := h
      unfold f_X4_repaintFaded_l5 at h
      refine lv_iload hx hb dX4_repaintFaded_5 (lv_at hl 4 rfl) ?_
      refine lv_aload_n hx hb dX4_repaintFaded_7 rfl (lv_at hl 0 rfl) ?_
      refine r_get C hW (K := RX4) (T := TX4) (N := 3) (v := .int v5.2.2.2.1) 0 0 0 rfl rfl rfl inX4_repaintFaded_X4 (by decide) (List.mem_of_getElem? (i := 1) rfl) rfl rfl dX4_repaintFaded_8 ?_
      refine lv_icmp_ge (tgt := 52) hx hb dX4_repaintFaded_11 (by decide) (fun e1 => ?_) (fun e1 => ?_)
      · replace h := q_t e1 h
        refine lv_iload_n hx hb dX4_repaintFaded_52 rfl (lv_at hl 3 rfl) ?_
        cases h
        exact E _ _ _ _ _ hW rfl rfl dX4_repaintFaded_53
      · replace h := q_f e1 h
        refine lv_iload_n hx hb dX4_repaintFaded_14 rfl (lv_at hl 3 rfl) ?_
        refine lv_iload_n hx hb dX4_repaintFaded_15 rfl (lv_at hl 2 rfl) ?_
        refine lv_icmp_ge (tgt := 52) hx hb dX4_repaintFaded_16 (by decide) (fun e2 => ?_) (fun e2 => ?_)
        · replace h := q_t e2 h
          refine lv_iload_n hx hb dX4_repaintFaded_52 rfl (lv_at hl 3 rfl) ?_
          cases h
          exact E _ _ _ _ _ hW rfl rfl dX4_repaintFaded_53
        · replace h := q_f e2 h
          refine lv_aload_n hx hb dX4_repaintFaded_19 rfl (lv_at hl 0 rfl) ?_
          refine lv_iload hx hb dX4_repaintFaded_20 (lv_at hl 4 rfl) ?_
          refine lv_iload_n hx hb dX4_repaintFaded_22 rfl (lv_at hl 1 rfl) ?_
          obtain ⟨t3, h4, h⟩ := q_b h
          refine r_cVi C hW (nA := 2) (As := [.int v5.2.1, .int p1]) (rest := []) (c_X4_isFaded l g A b v5.2.2 v5.2.1 p1 _ h4) gX4_repaintFaded_X4_isFaded rfl ⟨rfl, wo_X4_isFaded⟩ (rmk hR rfl rfl) rfl rfl rfl rfl hl.1 (Nat.le_of_ble_eq_true rfl) rz dX4_repaintFaded_23 (n := 3) (is := [0, 1, 2]) (rs := []) (bs' := [[(A b, .inr (4, [.int v5.2.2.2.1, .ref (A (b + 1)), .ref (A (b + 2))]))], [(A (b + 1), .inl (gI g, v5.2.2.1, .inl v5.2.2.2.2.1))], [(A (b + 2), .inl (gI g, v5.2.2.1, .inl v5.2.2.2.2.2))]]) rfl rfl pm_a4c891c0 rfl rfl rfl (fun H locs hW => ?_)
          refine lv_if_eq (tgt := 46) hx hb dX4_repaintFaded_26 (by decide) (fun e5 => ?_) (fun e5 => ?_)
          · replace h := q_t e5 h
            refine lv_iinc (v := (v5.2.1 + 1)) (lv' := [(4, .int (v5.2.1 + 1)), (0, .ref (A b)), (1, .int p1), (2, .int p2), (3, .int v5.1)]) hx hb dX4_repaintFaded_46 hl (k := 4) rfl rfl (by decide) rfl (fun ls hl => ?_)
            refine lv_goto (tgt := 5) hx hb dX4_repaintFaded_49 (by decide) ?_
            exact ih5 (v5.1, (v5.2.1 + 1), v5.2.2) h _ _ hW _ (lv_sub hl [1, 2, 3, 4, 0] rfl)
          · replace h := q_f e5 h
            refine lv_aload_n hx hb dX4_repaintFaded_29 rfl (lv_at hl 0 rfl) ?_
            refine r_get C hW (K := RX4) (T := TX4) (N := 3) (v := .ref (A (b + 2))) 0 0 2 rfl rfl rfl inX4_repaintFaded_X4 (by decide) (List.mem_of_getElem? (i := 2) rfl) rfl rfl dX4_repaintFaded_30 ?_
            refine lv_iload hx hb dX4_repaintFaded_33 (lv_at hl 4 rfl) ?_
            refine lv_bipush (v := 16) hx hb dX4_repaintFaded_35 (by decide) ?_
            refine lv_imul hx hb dX4_repaintFaded_37 ?_
            refine lv_iload_n hx hb dX4_repaintFaded_38 rfl (lv_at hl 1 rfl) ?_
            refine lv_iadd hx hb dX4_repaintFaded_39 ?_
            refine lv_bipush (v := 100) hx hb dX4_repaintFaded_40 (by decide) ?_
            obtain ⟨g6, h⟩ := q_g h
            refine r_iast C hW (bs' := [[(A b, .inr (4, [.int v5.2.2.2.1, .ref (A (b + 1)), .ref (A (b + 2))]))], [(A (b + 1), .inl (gI g, v5.2.2.1, .inl v5.2.2.2.2.1))], [(A (b + 2), .inl (gI g, v5.2.2.1, .inl (upd v5.2.2.2.2.2 ((v5.2.1 * 16) + p1).toNatClampNeg 100)))]]) 2 0 rfl rfl g6 dX4_repaintFaded_42 rfl (fun H locs hW => ?_)
            refine lv_iinc (v := (v5.1 + 1)) (lv' := [(3, .int (v5.1 + 1)), (0, .ref (A b)), (1, .int p1), (2, .int p2), (4, .int v5.2.1)]) hx hb dX4_repaintFaded_43 hl (k := 3) rfl rfl (by decide) rfl (fun ls hl => ?_)
            refine lv_iinc (v := (v5.2.1 + 1)) (lv' := [(4, .int (v5.2.1 + 1)), (3, .int (v5.1 + 1)), (0, .ref (A b)), (1, .int p1), (2, .int p2)]) hx hb dX4_repaintFaded_46 hl (k := 4) rfl rfl (by decide) rfl (fun ls hl => ?_)
            refine lv_goto (tgt := 5) hx hb dX4_repaintFaded_49 (by decide) ?_
            exact ih5 ((v5.1 + 1), (v5.2.1 + 1), (v5.2.2.1, v5.2.2.2.1, v5.2.2.2.2.1, (upd v5.2.2.2.2.2 ((v5.2.1 * 16) + p1).toNatClampNeg 100))) h _ _ hW _ (lv_sub hl [2, 3, 4, 1, 0] rfl)
  exact L5 3000 (0, 0, x) h _ _ hW _ (lv_sub hl [2, 3, 4, 1, 0] rfl)
def f_X4_sumOfStrengths_l4 (x : TX4s) (k4 : (Int32 × Int32) → Option (Int32)) (v4 : Int32 × Int32) : Option (Int32) :=
if (nI x.1) ≤ v4.2 then (
some v4.1)
else (
if v4.2 < 0 ∨ x.1 ≤ (v4.2).toNatClampNeg then none else
k4 ((v4.1 + (x.2.2.2 (v4.2).toNatClampNeg)), (v4.2 + 1)))
def f_X4_sumOfStrengths (x : TX4s) : Option (Int32) :=
lpN (f_X4_sumOfStrengths_l4 x) 3000 (0, 0)
theorem wo_X4_sumOfStrengths : wordsOk yX4_sumOfStrengths 0 := by decide +kernel
theorem inX4_sumOfStrengths_X4 : ∀ w ∈ wsX40, w ∈ wsX4_sumOfStrengths := fun _ h => List.mem_cons_of_mem _ (List.mem_append_right _ h)
set_option maxHeartbeats 4000000 in
set_option maxRecDepth 100000 in
theorem c_X4_sumOfStrengths (l : Launch) (g : GG) (A : Nat → Nat) (b : Nat) (x : TX4s) (r : Int32) (h : f_X4_sumOfStrengths x = some r) : CI l yX4_sumOfStrengths wsX4_sumOfStrengths 0 0 g [.ref (A b)] (wX4 g A b x) r (wX4 g A b x) := by
  refine CI.mk (own := RX4) (by decide) rfl rfl (Nat.le_of_ble_eq_true rfl) ?_
  intro p e R s m args below meth c Z Q C E hR H hW ls hl
  have hx := C.1.1
  have hb := C.1.2.1
  have hown := C.1.2.2.2.1
  replace hW : WdG g Z s.heap H [] [[(A b, .inr (4, [.int x.2.1, .ref (A (b + 1)), .ref (A (b + 2))]))], [(A (b + 1), .inl (gI g, x.1, .inl x.2.2.1))], [(A (b + 2), .inl (gI g, x.1, .inl x.2.2.2))]] := hW.re rfl
  replace hl : lv_has ls 3 [(0, .ref (A b))] := hl
  unfold f_X4_sumOfStrengths at h
  refine lv_iconst (v := 0) hx hb dX4_sumOfStrengths_0 (by decide) ?_
  refine lv_istore_n (lv' := [(1, .int 0), (0, .ref (A b))]) hx hb dX4_sumOfStrengths_1 rfl hl (by decide) rfl (fun ls hl => ?_)
  refine lv_iconst (v := 0) hx hb dX4_sumOfStrengths_2 (by decide) ?_
  refine lv_istore_n (lv' := [(2, .int 0), (1, .int 0), (0, .ref (A b))]) hx hb dX4_sumOfStrengths_3 rfl hl (by decide) rfl (fun ls hl => ?_)
  have L4 : ∀ n4 : Nat, ∀ (v4 : Int32 × Int32), lpN (f_X4_sumOfStrengths_l4 x) n4 v4 = some r → ∀ (H : Heap) (locs : List Loc), WdG g Z s.heap H locs [[(A b, .inr (4, [.int x.2.1, .ref (A (b + 1)), .ref (A (b + 2))]))], [(A (b + 1), .inl (gI g, x.1, .inl x.2.2.1))], [(A (b + 2), .inl (gI g, x.1, .inl x.2.2.2))]] → ∀ ls : Array Slot, lv_has ls 3 [(0, .ref (A b)), (1, .int v4.1), (2, .int v4.2)] → W p l e R s m args below meth c H locs 0 0 Q (F0 m 4 ls []) := by
    intro n4
    induction n4 with
    | zero => intro v4 h; exact absurd (show none = some r from h) (fun h => by cases h)
    | succ n4 ih4 =>
      intro v4 h H locs hW ls hl
      replace h : f_X4_sumOfStrengths_l4 x (lpN (f_X4_sumOfStrengths_l4 x) n4) v4 = some r := h
      unfold f_X4_sumOfStrengths_l4 at h
      refine lv_iload_n hx hb dX4_sumOfStrengths_4 rfl (lv_at hl 2 rfl) ?_
      refine lv_aload_n hx hb dX4_sumOfStrengths_5 rfl (lv_at hl 0 rfl) ?_
      refine r_get C hW (K := RX4) (T := TX4) (N := 3) (v := .ref (A (b + 2))) 0 0 2 rfl rfl rfl inX4_sumOfStrengths_X4 (by decide) (List.mem_of_getElem? (i := 1) rfl) rfl rfl dX4_sumOfStrengths_6 ?_
      refine r_alen C hW 2 0 rfl rfl dX4_sumOfStrengths_9 ?_
      refine lv_icmp_ge (tgt := 28) hx hb dX4_sumOfStrengths_10 (by decide) (fun e1 => ?_) (fun e1 => ?_)
      · replace h := q_t e1 h
        refine lv_iload_n hx hb dX4_sumOfStrengths_28 rfl (lv_at hl 1 rfl) ?_
        cases h
        exact E _ _ _ _ _ hW rfl rfl dX4_sumOfStrengths_29
      · replace h := q_f e1 h
        refine lv_iload_n hx hb dX4_sumOfStrengths_13 rfl (lv_at hl 1 rfl) ?_
        refine lv_aload_n hx hb dX4_sumOfStrengths_14 rfl (lv_at hl 0 rfl) ?_
        refine r_get C hW (K := RX4) (T := TX4) (N := 3) (v := .ref (A (b + 2))) 0 0 2 rfl rfl rfl inX4_sumOfStrengths_X4 (by decide) (List.mem_of_getElem? (i := 1) rfl) rfl rfl dX4_sumOfStrengths_15 ?_
        refine lv_iload_n hx hb dX4_sumOfStrengths_18 rfl (lv_at hl 2 rfl) ?_
        obtain ⟨g2, h⟩ := q_g h
        refine r_iald C hW 2 0 rfl rfl g2 dX4_sumOfStrengths_19 ?_
        refine lv_iadd hx hb dX4_sumOfStrengths_20 ?_
        refine lv_istore_n (lv' := [(1, .int (v4.1 + (x.2.2.2 (v4.2).toNatClampNeg))), (0, .ref (A b)), (2, .int v4.2)]) hx hb dX4_sumOfStrengths_21 rfl hl (by decide) rfl (fun ls hl => ?_)
        refine lv_iinc (v := (v4.2 + 1)) (lv' := [(2, .int (v4.2 + 1)), (1, .int (v4.1 + (x.2.2.2 (v4.2).toNatClampNeg))), (0, .ref (A b))]) hx hb dX4_sumOfStrengths_22 hl (k := 2) rfl rfl (by decide) rfl (fun ls hl => ?_)
        refine lv_goto (tgt := 4) hx hb dX4_sumOfStrengths_25 (by decide) ?_
        exact ih4 ((v4.1 + (x.2.2.2 (v4.2).toNatClampNeg)), (v4.2 + 1)) h _ _ hW _ (lv_sub hl [2, 1, 0] rfl)
  exact L4 3000 (0, 0) h _ _ hW _ (lv_sub hl [2, 1, 0] rfl)
def f_X4_isAt (x : TX4s) (p1 : Int32) (p2 : Int32) : Option (Int32) :=
if ((p1 * 16) + p2) < 0 ∨ x.1 ≤ ((p1 * 16) + p2).toNatClampNeg then none else
if (x.2.2.2 ((p1 * 16) + p2).toNatClampNeg) ≤ 0 then (
some 0)
else (
some 1)
theorem wo_X4_isAt : wordsOk yX4_isAt 2 := by decide +kernel
theorem inX4_isAt_X4 : ∀ w ∈ wsX40, w ∈ wsX4_isAt := fun _ h => List.mem_cons_of_mem _ (List.mem_append_right _ h)
set_option maxHeartbeats 4000000 in
set_option maxRecDepth 100000 in
theorem c_X4_isAt (l : Launch) (g : GG) (A : Nat → Nat) (b : Nat) (x : TX4s) (p1 : Int32) (p2 : Int32) (r : Int32) (h : f_X4_isAt x p1 p2 = some r) : CI l yX4_isAt wsX4_isAt 0 0 g [.ref (A b), .int p1, .int p2] (wX4 g A b x) r (wX4 g A b x) := by
  refine CI.mk (own := RX4) (by decide) rfl rfl (Nat.le_of_ble_eq_true rfl) ?_
  intro p e R s m args below meth c Z Q C E hR H hW ls hl
  have hx := C.1.1
  have hb := C.1.2.1
  have hown := C.1.2.2.2.1
  replace hW : WdG g Z s.heap H [] [[(A b, .inr (4, [.int x.2.1, .ref (A (b + 1)), .ref (A (b + 2))]))], [(A (b + 1), .inl (gI g, x.1, .inl x.2.2.1))], [(A (b + 2), .inl (gI g, x.1, .inl x.2.2.2))]] := hW.re rfl
  replace hl : lv_has ls 3 [(0, .ref (A b)), (1, .int p1), (2, .int p2)] := hl
  unfold f_X4_isAt at h
  refine lv_aload_n hx hb dX4_isAt_0 rfl (lv_at hl 0 rfl) ?_
  refine r_get C hW (K := RX4) (T := TX4) (N := 3) (v := .ref (A (b + 2))) 0 0 2 rfl rfl rfl inX4_isAt_X4 (by decide) (List.mem_of_getElem? (i := 1) rfl) rfl rfl dX4_isAt_1 ?_
  refine lv_iload_n hx hb dX4_isAt_4 rfl (lv_at hl 1 rfl) ?_
  refine lv_bipush (v := 16) hx hb dX4_isAt_5 (by decide) ?_
  refine lv_imul hx hb dX4_isAt_7 ?_
  refine lv_iload_n hx hb dX4_isAt_8 rfl (lv_at hl 2 rfl) ?_
  refine lv_iadd hx hb dX4_isAt_9 ?_
  obtain ⟨g1, h⟩ := q_g h
  refine r_iald C hW 2 0 rfl rfl g1 dX4_isAt_10 ?_
  refine lv_if_le (tgt := 18) hx hb dX4_isAt_11 (by decide) (fun e2 => ?_) (fun e2 => ?_)
  · replace h := q_t e2 h
    refine lv_iconst (v := 0) hx hb dX4_isAt_18 (by decide) ?_
    cases h
    exact E _ _ _ _ _ hW rfl rfl dX4_isAt_19
  · replace h := q_f e2 h
    refine lv_iconst (v := 1) hx hb dX4_isAt_14 (by decide) ?_
    refine lv_goto (tgt := 19) hx hb dX4_isAt_15 (by decide) ?_
    cases h
    exact E _ _ _ _ _ hW rfl rfl dX4_isAt_19
def f_X4_countFaded_l4 (x : TX4s) (p1 : Int32) (k4 : (Int32 × Int32) → Option (Int32)) (v4 : Int32 × Int32) : Option (Int32) :=
if x.2.1 ≤ v4.2 then (
some v4.1)
else (
(f_X4_isFaded x v4.2 p1).bind fun t2 =>
(f_X5_asNumber t2).bind fun t4 =>
k4 ((v4.1 + t4), (v4.2 + 1)))
def f_X4_countFaded (x : TX4s) (p1 : Int32) : Option (Int32) :=
lpN (f_X4_countFaded_l4 x p1) 3000 (0, 0)
theorem wo_X4_countFaded : wordsOk yX4_countFaded 1 := by decide +kernel
theorem inX4_countFaded_X4 : ∀ w ∈ wsX40, w ∈ wsX4_countFaded := fun _ h => List.mem_cons_of_mem _ (List.mem_append_right _ h)
set_option maxHeartbeats 4000000 in
set_option maxRecDepth 100000 in
theorem c_X4_countFaded (l : Launch) (g : GG) (A : Nat → Nat) (b : Nat) (x : TX4s) (p1 : Int32) (r : Int32) (h : f_X4_countFaded x p1 = some r) : CI l yX4_countFaded wsX4_countFaded 1 23 g [.ref (A b), .int p1] (wX4 g A b x) r (wX4 g A b x) := by
  refine CI.mk (own := RX4) (by decide) rfl rfl (Nat.le_of_ble_eq_true rfl) ?_
  intro p e R s m args below meth c Z Q C E hR H hW ls hl
  have hx := C.1.1
  have hb := C.1.2.1
  have hown := C.1.2.2.2.1
  replace hW : WdG g Z s.heap H [] [[(A b, .inr (4, [.int x.2.1, .ref (A (b + 1)), .ref (A (b + 2))]))], [(A (b + 1), .inl (gI g, x.1, .inl x.2.2.1))], [(A (b + 2), .inl (gI g, x.1, .inl x.2.2.2))]] := hW.re rfl
  replace hl : lv_has ls 4 [(0, .ref (A b)), (1, .int p1)] := hl
  unfold f_X4_countFaded at h
  refine lv_iconst (v := 0) hx hb dX4_countFaded_0 (by decide) ?_
  refine lv_istore_n (lv' := [(2, .int 0), (0, .ref (A b)), (1, .int p1)]) hx hb dX4_countFaded_1 rfl hl (by decide) rfl (fun ls hl => ?_)
  refine lv_iconst (v := 0) hx hb dX4_countFaded_2 (by decide) ?_
  refine lv_istore_n (lv' := [(3, .int 0), (2, .int 0), (0, .ref (A b)), (1, .int p1)]) hx hb dX4_countFaded_3 rfl hl (by decide) rfl (fun ls hl => ?_)
  have L4 : ∀ n4 : Nat, ∀ (v4 : Int32 × Int32), lpN (f_X4_countFaded_l4 x p1) n4 v4 = some r → ∀ (H : Heap) (locs : List Loc), WdG g Z s.heap H locs [[(A b, .inr (4, [.int x.2.1, .ref (A (b + 1)), .ref (A (b + 2))]))], [(A (b + 1), .inl (gI g, x.1, .inl x.2.2.1))], [(A (b + 2), .inl (gI g, x.1, .inl x.2.2.2))]] → ∀ ls : Array Slot, lv_has ls 4 [(0, .ref (A b)), (1, .int p1), (2, .int v4.1), (3, .int v4.2)] → W p l e R s m args below meth c H locs 0 0 Q (F0 m 4 ls []) := by
    intro n4
    induction n4 with
    | zero => intro v4 h; exact absurd (show none = some r from h) (fun h => by cases h)
    | succ n4 ih4 =>
      intro v4 h H locs hW ls hl
      replace h : f_X4_countFaded_l4 x p1 (lpN (f_X4_countFaded_l4 x p1) n4) v4 = some r := h
      unfold f_X4_countFaded_l4 at h
      refine lv_iload_n hx hb dX4_countFaded_4 rfl (lv_at hl 3 rfl) ?_
      refine lv_aload_n hx hb dX4_countFaded_5 rfl (lv_at hl 0 rfl) ?_
      refine r_get C hW (K := RX4) (T := TX4) (N := 3) (v := .int x.2.1) 0 0 0 rfl rfl rfl inX4_countFaded_X4 (by decide) (List.mem_of_getElem? (i := 1) rfl) rfl rfl dX4_countFaded_6 ?_
      refine lv_icmp_ge (tgt := 30) hx hb dX4_countFaded_9 (by decide) (fun e1 => ?_) (fun e1 => ?_)
      · replace h := q_t e1 h
        refine lv_iload_n hx hb dX4_countFaded_30 rfl (lv_at hl 2 rfl) ?_
        cases h
        exact E _ _ _ _ _ hW rfl rfl dX4_countFaded_31
      · replace h := q_f e1 h
        refine lv_iload_n hx hb dX4_countFaded_12 rfl (lv_at hl 2 rfl) ?_
        refine lv_aload_n hx hb dX4_countFaded_13 rfl (lv_at hl 0 rfl) ?_
        refine lv_iload_n hx hb dX4_countFaded_14 rfl (lv_at hl 3 rfl) ?_
        refine lv_iload_n hx hb dX4_countFaded_15 rfl (lv_at hl 1 rfl) ?_
        obtain ⟨t2, h3, h⟩ := q_b h
        refine r_cVi C hW (nA := 2) (As := [.int v4.2, .int p1]) (rest := [.int v4.1]) (c_X4_isFaded l g A b x v4.2 p1 _ h3) gX4_countFaded_X4_isFaded rfl ⟨rfl, wo_X4_isFaded⟩ (rmk hR rfl rfl) rfl rfl rfl rfl hl.1 (Nat.le_of_ble_eq_true rfl) rz dX4_countFaded_16 (n := 3) (is := [0, 1, 2]) (rs := []) (bs' := [[(A b, .inr (4, [.int x.2.1, .ref (A (b + 1)), .ref (A (b + 2))]))], [(A (b + 1), .inl (gI g, x.1, .inl x.2.2.1))], [(A (b + 2), .inl (gI g, x.1, .inl x.2.2.2))]]) rfl rfl pm_a4c891c0 rfl rfl rfl (fun H locs hW => ?_)
        obtain ⟨t4, h5, h⟩ := q_b h
        refine r_cNi C hW (nA := 1) (As := [.int t2]) (rest := [.int v4.1]) (c_X5_asNumber l g t2 _ h5) gX4_countFaded_X5_asNumber_n32 rfl (List.mem_of_getElem? (i := 12) rfl) (List.mem_of_getElem? (i := 9) rfl) (List.mem_of_getElem? (i := 8) rfl) wo_X5_asNumber (rmk hR rfl rfl) rfl rfl hl.1 (Nat.le_of_ble_eq_true rfl) rz dX4_countFaded_19 (n := 3) (is := []) (rs := [0, 1, 2]) (bs' := [[(A b, .inr (4, [.int x.2.1, .ref (A (b + 1)), .ref (A (b + 2))]))], [(A (b + 1), .inl (gI g, x.1, .inl x.2.2.1))], [(A (b + 2), .inl (gI g, x.1, .inl x.2.2.2))]]) rfl rfl pm_783ef816 rfl rfl rfl (fun H locs hW => ?_)
        refine lv_iadd hx hb dX4_countFaded_22 ?_
        refine lv_istore_n (lv' := [(2, .int (v4.1 + t4)), (0, .ref (A b)), (1, .int p1), (3, .int v4.2)]) hx hb dX4_countFaded_23 rfl hl (by decide) rfl (fun ls hl => ?_)
        refine lv_iinc (v := (v4.2 + 1)) (lv' := [(3, .int (v4.2 + 1)), (2, .int (v4.1 + t4)), (0, .ref (A b)), (1, .int p1)]) hx hb dX4_countFaded_24 hl (k := 3) rfl rfl (by decide) rfl (fun ls hl => ?_)
        refine lv_goto (tgt := 4) hx hb dX4_countFaded_27 (by decide) ?_
        exact ih4 ((v4.1 + t4), (v4.2 + 1)) h _ _ hW _ (lv_sub hl [2, 3, 1, 0] rfl)
  exact L4 3000 (0, 0) h _ _ hW _ (lv_sub hl [2, 3, 1, 0] rfl)
