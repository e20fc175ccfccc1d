def f_X6_in (p1 : Int32) (p2 : Int32) (p3 : Int32) : Option (Int32) :=
if p1 < p2 then (
some 0)
else (
if p3 < p1 then (
some 0)
else (
some 1))
theorem wo_X6_in : wordsOk yX6_in 3 := by decide +kernel
set_option maxHeartbeats 4000000 in
set_option maxRecDepth 100000 in
theorem c_X6_in (l : Launch) (g : GG) (p1 : Int32) (p2 : Int32) (p3 : Int32) (r : Int32) (h : f_X6_in p1 p2 p3 = some r) : CI l yX6_in wsX6_in 0 0 g [.int p1, .int p2, .int p3] ([]) r ([]) := by
  refine CI.mk (own := RX6) (by decide) rfl rfl (Nat.le_of_ble_eq_true rfl) ?_
  intro p e R s m args below meth c Z Q C E hR H hW ls hl
  have hx := C.1.1
  have hb := C.1.2.1
  have hown := C.1.2.2.2.1
  replace hW : WdG g Z s.heap H [] [] := hW.re rfl
  replace hl : lv_has ls 3 [(0, .int p1), (1, .int p2), (2, .int p3)] := hl
  unfold f_X6_in at h
  refine lv_iload_n hx hb dX6_in_0 rfl (lv_at hl 0 rfl) ?_
  refine lv_iload_n hx hb dX6_in_1 rfl (lv_at hl 1 rfl) ?_
  refine lv_icmp_lt (tgt := 14) hx hb dX6_in_2 (by decide) (fun e1 => ?_) (fun e1 => ?_)
  · replace h := q_t e1 h
    refine lv_iconst (v := 0) hx hb dX6_in_14 (by decide) ?_
    cases h
    exact E _ _ _ _ _ hW rfl rfl dX6_in_15
  · replace h := q_f e1 h
    refine lv_iload_n hx hb dX6_in_5 rfl (lv_at hl 0 rfl) ?_
    refine lv_iload_n hx hb dX6_in_6 rfl (lv_at hl 2 rfl) ?_
    refine lv_icmp_gt (tgt := 14) hx hb dX6_in_7 (by decide) (fun e2 => ?_) (fun e2 => ?_)
    · replace h := q_t e2 h
      refine lv_iconst (v := 0) hx hb dX6_in_14 (by decide) ?_
      cases h
      exact E _ _ _ _ _ hW rfl rfl dX6_in_15
    · replace h := q_f e2 h
      refine lv_iconst (v := 1) hx hb dX6_in_10 (by decide) ?_
      refine lv_goto (tgt := 15) hx hb dX6_in_11 (by decide) ?_
      cases h
      exact E _ _ _ _ _ hW rfl rfl dX6_in_15
def f_X6_isCell (p1 : Int32) (p2 : Int32) : Option (Int32) :=
(f_X6_in p1 0 2).bind fun t1 =>
if t1 = 0 then (
some 0)
else (
(f_X6_in p2 0 15).bind fun t4 =>
if t4 = 0 then (
some 0)
else (
some 1))
theorem wo_X6_isCell : wordsOk yX6_isCell 2 := by decide +kernel
set_option maxHeartbeats 4000000 in
set_option maxRecDepth 100000 in
theorem c_X6_isCell (l : Launch) (g : GG) (p1 : Int32) (p2 : Int32) (r : Int32) (h : f_X6_isCell p1 p2 = some r) : CI l yX6_isCell wsX6_isCell 1 22 g [.int p1, .int p2] ([]) r ([]) := by
  refine CI.mk (own := RX6) (by decide) rfl rfl (Nat.le_of_ble_eq_true rfl) ?_
  intro p e R s m args below meth c Z Q C E hR H hW ls hl
  have hx := C.1.1
  have hb := C.1.2.1
  have hown := C.1.2.2.2.1
  replace hW : WdG g Z s.heap H [] [] := hW.re rfl
  replace hl : lv_has ls 2 [(0, .int p1), (1, .int p2)] := hl
  unfold f_X6_isCell at h
  refine lv_iload_n hx hb dX6_isCell_0 rfl (lv_at hl 0 rfl) ?_
  refine lv_iconst (v := 0) hx hb dX6_isCell_1 (by decide) ?_
  refine lv_iconst (v := 2) hx hb dX6_isCell_2 (by decide) ?_
  obtain ⟨t1, h2, h⟩ := q_b h
  refine r_cSi C hW (nA := 3) (As := [.int p1, .int 0, .int 2]) (rest := []) (c_X6_in l g p1 0 2 _ h2) gX6_isCell_X6_in rfl wo_X6_in (rmk hR rfl rfl) rfl rfl hl.1 (Nat.le_of_ble_eq_true rfl) rz dX6_isCell_3 (n := 0) (is := []) (rs := []) (bs' := []) rfl rfl pm_11 rfl rfl rfl (fun H locs hW => ?_)
  refine lv_if_eq (tgt := 23) hx hb dX6_isCell_6 (by decide) (fun e3 => ?_) (fun e3 => ?_)
  · replace h := q_t e3 h
    refine lv_iconst (v := 0) hx hb dX6_isCell_23 (by decide) ?_
    cases h
    exact E _ _ _ _ _ hW rfl rfl dX6_isCell_24
  · replace h := q_f e3 h
    refine lv_iload_n hx hb dX6_isCell_9 rfl (lv_at hl 1 rfl) ?_
    refine lv_iconst (v := 0) hx hb dX6_isCell_10 (by decide) ?_
    refine lv_bipush (v := 15) hx hb dX6_isCell_11 (by decide) ?_
    obtain ⟨t4, h5, h⟩ := q_b h
    refine r_cSi C hW (nA := 3) (As := [.int p2, .int 0, .int 15]) (rest := []) (c_X6_in l g p2 0 15 _ h5) gX6_isCell_X6_in rfl wo_X6_in (rmk hR rfl rfl) rfl rfl hl.1 (Nat.le_of_ble_eq_true rfl) rz dX6_isCell_13 (n := 0) (is := []) (rs := []) (bs' := []) rfl rfl pm_11 rfl rfl rfl (fun H locs hW => ?_)
    refine lv_if_eq (tgt := 23) hx hb dX6_isCell_16 (by decide) (fun e6 => ?_) (fun e6 => ?_)
    · replace h := q_t e6 h
      refine lv_iconst (v := 0) hx hb dX6_isCell_23 (by decide) ?_
      cases h
      exact E _ _ _ _ _ hW rfl rfl dX6_isCell_24
    · replace h := q_f e6 h
      refine lv_iconst (v := 1) hx hb dX6_isCell_19 (by decide) ?_
      refine lv_goto (tgt := 24) hx hb dX6_isCell_20 (by decide) ?_
      cases h
      exact E _ _ _ _ _ hW rfl rfl dX6_isCell_24
def f_X6_isLine (p1 : Int32) (p2 : Int32) : Option (Int32) :=
(f_X6_in p1 0 1).bind fun t1 =>
if t1 = 0 then (
some 0)
else (
(f_X6_in p2 0 15).bind fun t4 =>
if t4 = 0 then (
some 0)
else (
some 1))
theorem wo_X6_isLine : wordsOk yX6_isLine 2 := by decide +kernel
set_option maxHeartbeats 4000000 in
set_option maxRecDepth 100000 in
theorem c_X6_isLine (l : Launch) (g : GG) (p1 : Int32) (p2 : Int32) (r : Int32) (h : f_X6_isLine p1 p2 = some r) : CI l yX6_isLine wsX6_isLine 1 22 g [.int p1, .int p2] ([]) r ([]) := by
  refine CI.mk (own := RX6) (by decide) rfl rfl (Nat.le_of_ble_eq_true rfl) ?_
  intro p e R s m args below meth c Z Q C E hR H hW ls hl
  have hx := C.1.1
  have hb := C.1.2.1
  have hown := C.1.2.2.2.1
  replace hW : WdG g Z s.heap H [] [] := hW.re rfl
  replace hl : lv_has ls 2 [(0, .int p1), (1, .int p2)] := hl
  unfold f_X6_isLine at h
  refine lv_iload_n hx hb dX6_isLine_0 rfl (lv_at hl 0 rfl) ?_
  refine lv_iconst (v := 0) hx hb dX6_isLine_1 (by decide) ?_
  refine lv_iconst (v := 1) hx hb dX6_isLine_2 (by decide) ?_
  obtain ⟨t1, h2, h⟩ := q_b h
  refine r_cSi C hW (nA := 3) (As := [.int p1, .int 0, .int 1]) (rest := []) (c_X6_in l g p1 0 1 _ h2) gX6_isLine_X6_in rfl wo_X6_in (rmk hR rfl rfl) rfl rfl hl.1 (Nat.le_of_ble_eq_true rfl) rz dX6_isLine_3 (n := 0) (is := []) (rs := []) (bs' := []) rfl rfl pm_11 rfl rfl rfl (fun H locs hW => ?_)
  refine lv_if_eq (tgt := 23) hx hb dX6_isLine_6 (by decide) (fun e3 => ?_) (fun e3 => ?_)
  · replace h := q_t e3 h
    refine lv_iconst (v := 0) hx hb dX6_isLine_23 (by decide) ?_
    cases h
    exact E _ _ _ _ _ hW rfl rfl dX6_isLine_24
  · replace h := q_f e3 h
    refine lv_iload_n hx hb dX6_isLine_9 rfl (lv_at hl 1 rfl) ?_
    refine lv_iconst (v := 0) hx hb dX6_isLine_10 (by decide) ?_
    refine lv_bipush (v := 15) hx hb dX6_isLine_11 (by decide) ?_
    obtain ⟨t4, h5, h⟩ := q_b h
    refine r_cSi C hW (nA := 3) (As := [.int p2, .int 0, .int 15]) (rest := []) (c_X6_in l g p2 0 15 _ h5) gX6_isLine_X6_in rfl wo_X6_in (rmk hR rfl rfl) rfl rfl hl.1 (Nat.le_of_ble_eq_true rfl) rz dX6_isLine_13 (n := 0) (is := []) (rs := []) (bs' := []) rfl rfl pm_11 rfl rfl rfl (fun H locs hW => ?_)
    refine lv_if_eq (tgt := 23) hx hb dX6_isLine_16 (by decide) (fun e6 => ?_) (fun e6 => ?_)
    · replace h := q_t e6 h
      refine lv_iconst (v := 0) hx hb dX6_isLine_23 (by decide) ?_
      cases h
      exact E _ _ _ _ _ hW rfl rfl dX6_isLine_24
    · replace h := q_f e6 h
      refine lv_iconst (v := 1) hx hb dX6_isLine_19 (by decide) ?_
      refine lv_goto (tgt := 24) hx hb dX6_isLine_20 (by decide) ?_
      cases h
      exact E _ _ _ _ _ hW rfl rfl dX6_isLine_24
def f_X6_cellAt (p1 : Int32) (p2 : Int32) : Option (Int32) :=
some (12 + (4 * ((16 * p1) + p2)))
theorem wo_X6_cellAt : wordsOk yX6_cellAt 2 := by decide +kernel
set_option maxHeartbeats 4000000 in
set_option maxRecDepth 100000 in
theorem c_X6_cellAt (l : Launch) (g : GG) (p1 : Int32) (p2 : Int32) (r : Int32) (h : f_X6_cellAt p1 p2 = some r) : CI l yX6_cellAt wsX6_cellAt 0 0 g [.int p1, .int p2] ([]) r ([]) := by
  refine CI.mk (own := RX6) (by decide) rfl rfl (Nat.le_of_ble_eq_true rfl) ?_
  intro p e R s m args below meth c Z Q C E hR H hW ls hl
  have hx := C.1.1
  have hb := C.1.2.1
  have hown := C.1.2.2.2.1
  replace hW : WdG g Z s.heap H [] [] := hW.re rfl
  replace hl : lv_has ls 2 [(0, .int p1), (1, .int p2)] := hl
  unfold f_X6_cellAt at h
  refine lv_bipush (v := 12) hx hb dX6_cellAt_0 (by decide) ?_
  refine lv_iconst (v := 4) hx hb dX6_cellAt_2 (by decide) ?_
  refine lv_bipush (v := 16) hx hb dX6_cellAt_3 (by decide) ?_
  refine lv_iload_n hx hb dX6_cellAt_5 rfl (lv_at hl 0 rfl) ?_
  refine lv_imul hx hb dX6_cellAt_6 ?_
  refine lv_iload_n hx hb dX6_cellAt_7 rfl (lv_at hl 1 rfl) ?_
  refine lv_iadd hx hb dX6_cellAt_8 ?_
  refine lv_imul hx hb dX6_cellAt_9 ?_
  refine lv_iadd hx hb dX6_cellAt_10 ?_
  cases h
  exact E _ _ _ _ _ hW rfl rfl dX6_cellAt_11
def f_X6_lineAt (p1 : Int32) (p2 : Int32) : Option (Int32) :=
some (204 + (2 * ((16 * p1) + p2)))
theorem wo_X6_lineAt : wordsOk yX6_lineAt 2 := by decide +kernel
set_option maxHeartbeats 4000000 in
set_option maxRecDepth 100000 in
theorem c_X6_lineAt (l : Launch) (g : GG) (p1 : Int32) (p2 : Int32) (r : Int32) (h : f_X6_lineAt p1 p2 = some r) : CI l yX6_lineAt wsX6_lineAt 0 0 g [.int p1, .int p2] ([]) r ([]) := by
  refine CI.mk (own := RX6) (by decide) rfl rfl (Nat.le_of_ble_eq_true rfl) ?_
  intro p e R s m args below meth c Z Q C E hR H hW ls hl
  have hx := C.1.1
  have hb := C.1.2.1
  have hown := C.1.2.2.2.1
  replace hW : WdG g Z s.heap H [] [] := hW.re rfl
  replace hl : lv_has ls 2 [(0, .int p1), (1, .int p2)] := hl
  unfold f_X6_lineAt at h
  refine lv_sipush (v := 204) hx hb dX6_lineAt_0 (by decide) ?_
  refine lv_iconst (v := 2) hx hb dX6_lineAt_3 (by decide) ?_
  refine lv_bipush (v := 16) hx hb dX6_lineAt_4 (by decide) ?_
  refine lv_iload_n hx hb dX6_lineAt_6 rfl (lv_at hl 0 rfl) ?_
  refine lv_imul hx hb dX6_lineAt_7 ?_
  refine lv_iload_n hx hb dX6_lineAt_8 rfl (lv_at hl 1 rfl) ?_
  refine lv_iadd hx hb dX6_lineAt_9 ?_
  refine lv_imul hx hb dX6_lineAt_10 ?_
  refine lv_iadd hx hb dX6_lineAt_11 ?_
  cases h
  exact E _ _ _ _ _ hW rfl rfl dX6_lineAt_12
def f_X6_wayAt (x : TX6s) (p1 : Int32) (p2 : Int32) : Option (Int32) :=
(f_X6_cellAt p1 p2).bind fun t1 =>
if t1 < 0 ∨ 268 ≤ (t1).toNatClampNeg then none else
if (x.1 (t1).toNatClampNeg) = 0 then (
some (-6))
else (
some ((x.1 (t1).toNatClampNeg) - 1))
theorem wo_X6_wayAt : wordsOk yX6_wayAt 2 := by decide +kernel
theorem inX6_wayAt_X6 : ∀ w ∈ wsX60, w ∈ wsX6_wayAt := fun _ h => List.mem_cons_of_mem _ (List.mem_append_right _ h)
set_option maxHeartbeats 4000000 in
set_option maxRecDepth 100000 in
theorem c_X6_wayAt (l : Launch) (g : GG) (A : Nat → Nat) (b : Nat) (x : TX6s) (p1 : Int32) (p2 : Int32) (r : Int32) (h : f_X6_wayAt x p1 p2 = some r) : CI l yX6_wayAt wsX6_wayAt 1 21 g [.ref (A b), .int p1, .int p2] (wX6 g A b x) r (wX6 g A b x) := by
  refine CI.mk (own := RX6) (by decide) rfl rfl (Nat.le_of_ble_eq_true rfl) ?_
  intro p e R s m args below meth c Z Q C E hR H hW ls hl
  have hx := C.1.1
  have hb := C.1.2.1
  have hown := C.1.2.2.2.1
  replace hW : WdG g Z s.heap H [] [[(A b, .inr (6, [.ref (A (b + 1)), .ref (A (b + 2)), .int x.2.2.1, .ref (A (b + 3)), .int x.2.2.2.2.1, .ref (A (b + 4)), .int x.2.2.2.2.2.2.1, .ref (A (b + 5)), .ref (A (b + 6)), .int x.2.2.2.2.2.2.2.2.2.1, .int x.2.2.2.2.2.2.2.2.2.2.1, .int x.2.2.2.2.2.2.2.2.2.2.2]))], [(A (b + 1), .inl (gI g, 268, .inl x.1))], [(A (b + 2), .inl (gI g, 1340, .inl x.2.1))], [(A (b + 3), .inl (gI g, 268, .inl x.2.2.2.1))], [(A (b + 4), .inl (gC g, 70, .inl x.2.2.2.2.2.1))], [(A (b + 5), .inl (gI g, 3, .inl x.2.2.2.2.2.2.2.1))], [(A (b + 6), .inl (gI g, 144, .inl x.2.2.2.2.2.2.2.2.1))]] := hW.re rfl
  replace hl : lv_has ls 4 [(0, .ref (A b)), (1, .int p1), (2, .int p2)] := hl
  unfold f_X6_wayAt at h
  refine lv_aload_n hx hb dX6_wayAt_0 rfl (lv_at hl 0 rfl) ?_
  refine r_get C hW (K := RX6) (T := TX6) (N := 12) (v := .ref (A (b + 1))) 0 0 0 rfl rfl rfl inX6_wayAt_X6 (by decide) (List.mem_of_getElem? (i := 1) rfl) rfl rfl dX6_wayAt_1 ?_
  refine lv_iload_n hx hb dX6_wayAt_4 rfl (lv_at hl 1 rfl) ?_
  refine lv_iload_n hx hb dX6_wayAt_5 rfl (lv_at hl 2 rfl) ?_
  obtain ⟨t1, h2, h⟩ := q_b h
  refine r_cSi C hW (nA := 2) (As := [.int p1, .int p2]) (rest := [.ref (A (b + 1))]) (c_X6_cellAt l g p1 p2 _ h2) gX6_wayAt_X6_cellAt rfl wo_X6_cellAt (rmk hR rfl rfl) rfl rfl hl.1 (Nat.le_of_ble_eq_true rfl) rz dX6_wayAt_6 (n := 7) (is := []) (rs := [0, 1, 2, 3, 4, 5, 6]) (bs' := [[(A b, .inr (6, [.ref (A (b + 1)), .ref (A (b + 2)), .int x.2.2.1, .ref (A (b + 3)), .int x.2.2.2.2.1, .ref (A (b + 4)), .int x.2.2.2.2.2.2.1, .ref (A (b + 5)), .ref (A (b + 6)), .int x.2.2.2.2.2.2.2.2.2.1, .int x.2.2.2.2.2.2.2.2.2.2.1, .int x.2.2.2.2.2.2.2.2.2.2.2]))], [(A (b + 1), .inl (gI g, 268, .inl x.1))], [(A (b + 2), .inl (gI g, 1340, .inl x.2.1))], [(A (b + 3), .inl (gI g, 268, .inl x.2.2.2.1))], [(A (b + 4), .inl (gC g, 70, .inl x.2.2.2.2.2.1))], [(A (b + 5), .inl (gI g, 3, .inl x.2.2.2.2.2.2.2.1))], [(A (b + 6), .inl (gI g, 144, .inl x.2.2.2.2.2.2.2.2.1))]]) rfl rfl pm_38 rfl rfl rfl (fun H locs hW => ?_)
  obtain ⟨g3, h⟩ := q_g h
  refine r_iald C hW 1 0 rfl rfl g3 dX6_wayAt_9 ?_
  refine lv_istore_n (lv' := [(3, .int (x.1 (t1).toNatClampNeg)), (0, .ref (A b)), (1, .int p1), (2, .int p2)]) hx hb dX6_wayAt_10 rfl hl (by decide) rfl (fun ls hl => ?_)
  refine lv_iload_n hx hb dX6_wayAt_11 rfl (lv_at hl 0 rfl) ?_
  refine lv_if_ne (tgt := 20) hx hb dX6_wayAt_12 (by decide) (fun e4 => ?_) (fun e4 => ?_)
  · replace h := q_f e4 h
    refine lv_iload_n hx hb dX6_wayAt_20 rfl (lv_at hl 0 rfl) ?_
    refine lv_iconst (v := 1) hx hb dX6_wayAt_21 (by decide) ?_
    refine lv_isub hx hb dX6_wayAt_22 ?_
    cases h
    exact E _ _ _ _ _ hW rfl rfl dX6_wayAt_23
  · replace h := q_t e4 h
    refine lv_bipush (v := (-6)) hx hb dX6_wayAt_15 (by decide) ?_
    refine lv_goto (tgt := 23) hx hb dX6_wayAt_17 (by decide) ?_
    cases h
    exact E _ _ _ _ _ hW rfl rfl dX6_wayAt_23
def f_X6_record_l51 (k51 : (Int32 × TX6s) → Option (TX6s)) (v51 : Int32 × TX6s) : Option (TX6s) :=
if 268 ≤ v51.1 then (
some (v51.2.1, v51.2.2.1, (v51.2.2.2.1 + 1), v51.2.2.2.2.1, v51.2.2.2.2.2.1, v51.2.2.2.2.2.2.1, v51.2.2.2.2.2.2.2.1, v51.2.2.2.2.2.2.2.2.1, v51.2.2.2.2.2.2.2.2.2.1, v51.2.2.2.2.2.2.2.2.2.2.1, v51.2.2.2.2.2.2.2.2.2.2.2.1, v51.2.2.2.2.2.2.2.2.2.2.2.2))
else (
if v51.1 < 0 ∨ 268 ≤ (v51.1).toNatClampNeg then none else
if ((v51.2.2.2.1 * 268) + v51.1) < 0 ∨ 1340 ≤ ((v51.2.2.2.1 * 268) + v51.1).toNatClampNeg then none else
k51 ((v51.1 + 1), (v51.2.1, (upd v51.2.2.1 ((v51.2.2.2.1 * 268) + v51.1).toNatClampNeg (v51.2.1 (v51.1).toNatClampNeg)), v51.2.2.2.1, v51.2.2.2.2.1, v51.2.2.2.2.2.1, v51.2.2.2.2.2.2.1, v51.2.2.2.2.2.2.2.1, v51.2.2.2.2.2.2.2.2.1, v51.2.2.2.2.2.2.2.2.2.1, v51.2.2.2.2.2.2.2.2.2.2.1, v51.2.2.2.2.2.2.2.2.2.2.2.1, v51.2.2.2.2.2.2.2.2.2.2.2.2)))
def f_X6_record_j49 (w49 : TX6s) : Option (TX6s) :=
lpN f_X6_record_l51 3000 (0, w49)
def f_X6_record_l10 (k10 : (Int32 × TX6s) → Option (TX6s)) (v10 : Int32 × TX6s) : Option (TX6s) :=
if 1072 ≤ v10.1 then (
f_X6_record_j49 (v10.2.1, v10.2.2.1, (v10.2.2.2.1 - 1), v10.2.2.2.2.1, v10.2.2.2.2.2.1, v10.2.2.2.2.2.2.1, v10.2.2.2.2.2.2.2.1, v10.2.2.2.2.2.2.2.2.1, v10.2.2.2.2.2.2.2.2.2.1, v10.2.2.2.2.2.2.2.2.2.2.1, v10.2.2.2.2.2.2.2.2.2.2.2.1, v10.2.2.2.2.2.2.2.2.2.2.2.2))
else (
if (v10.1 + 268) < 0 ∨ 1340 ≤ (v10.1 + 268).toNatClampNeg then none else
if v10.1 < 0 ∨ 1340 ≤ (v10.1).toNatClampNeg then none else
k10 ((v10.1 + 1), (v10.2.1, (upd v10.2.2.1 (v10.1).toNatClampNeg (v10.2.2.1 (v10.1 + 268).toNatClampNeg)), v10.2.2.2.1, v10.2.2.2.2.1, v10.2.2.2.2.2.1, v10.2.2.2.2.2.2.1, v10.2.2.2.2.2.2.2.1, v10.2.2.2.2.2.2.2.2.1, v10.2.2.2.2.2.2.2.2.2.1, v10.2.2.2.2.2.2.2.2.2.2.1, v10.2.2.2.2.2.2.2.2.2.2.2.1, v10.2.2.2.2.2.2.2.2.2.2.2.2)))
def f_X6_record (x : TX6s) : Option (TX6s) :=
if x.2.2.1 = 5 then (
lpN f_X6_record_l10 3000 (0, x))
else (
f_X6_record_j49 x)
theorem wo_X6_record : wordsOk yX6_record 0 := by decide +kernel
theorem inX6_record_X6 : ∀ w ∈ wsX60, w ∈ wsX6_record := fun _ h => List.mem_cons_of_mem _ (List.mem_append_right _ h)
set_option maxHeartbeats 4000000 in
set_option maxRecDepth 100000 in
theorem c_X6_record (l : Launch) (g : GG) (A : Nat → Nat) (b : Nat) (x : TX6s) (x' : TX6s) (h : f_X6_record x = some x') : CV l yX6_record wsX6_record 0 0 g [.ref (A b)] (wX6 g A b x) (wX6 g A b x') := by
  refine CV.mk (own := RX6) (by decide) rfl rfl (Nat.le_of_ble_eq_true rfl) ?_
  intro p e R s m args below meth c Z Q C E hR H hW ls hl
  have hx := C.1.1
  have hb := C.1.2.1
  have hown := C.1.2.2.2.1
  replace hW : WdG g Z s.heap H [] [[(A b, .inr (6, [.ref (A (b + 1)), .ref (A (b + 2)), .int x.2.2.1, .ref (A (b + 3)), .int x.2.2.2.2.1, .ref (A (b + 4)), .int x.2.2.2.2.2.2.1, .ref (A (b + 5)), .ref (A (b + 6)), .int x.2.2.2.2.2.2.2.2.2.1, .int x.2.2.2.2.2.2.2.2.2.2.1, .int x.2.2.2.2.2.2.2.2.2.2.2]))], [(A (b + 1), .inl (gI g, 268, .inl x.1))], [(A (b + 2), .inl (gI g, 1340, .inl x.2.1))], [(A (b + 3), .inl (gI g, 268, .inl x.2.2.2.1))], [(A (b + 4), .inl (gC g, 70, .inl x.2.2.2.2.2.1))], [(A (b + 5), .inl (gI g, 3, .inl x.2.2.2.2.2.2.2.1))], [(A (b + 6), .inl (gI g, 144, .inl x.2.2.2.2.2.2.2.2.1))]] := hW.re rfl
  replace hl : lv_has ls 2 [(0, .ref (A b))] := hl
  unfold f_X6_record at h
  refine lv_aload_n hx hb dX6_record_0 rfl (lv_at hl 0 rfl) ?_
  refine r_get C hW (K := RX6) (T := TX6) (N := 12) (v := .int x.2.2.1) 0 0 2 rfl rfl rfl inX6_record_X6 (by decide) (List.mem_of_getElem? (i := 1) rfl) rfl rfl dX6_record_1 ?_
  refine lv_iconst (v := 5) hx hb dX6_record_4 (by decide) ?_
  have J49 : ∀ (w49 : TX6s), f_X6_record_j49 w49 = some x' → ∀ (H : Heap) (locs : List Loc), WdG g Z s.heap H locs [[(A b, .inr (6, [.ref (A (b + 1)), .ref (A (b + 2)), .int w49.2.2.1, .ref (A (b + 3)), .int w49.2.2.2.2.1, .ref (A (b + 4)), .int w49.2.2.2.2.2.2.1, .ref (A (b + 5)), .ref (A (b + 6)), .int w49.2.2.2.2.2.2.2.2.2.1, .int w49.2.2.2.2.2.2.2.2.2.2.1, .int w49.2.2.2.2.2.2.2.2.2.2.2]))], [(A (b + 1), .inl (gI g, 268, .inl w49.1))], [(A (b + 2), .inl (gI g, 1340, .inl w49.2.1))], [(A (b + 3), .inl (gI g, 268, .inl w49.2.2.2.1))], [(A (b + 4), .inl (gC g, 70, .inl w49.2.2.2.2.2.1))], [(A (b + 5), .inl (gI g, 3, .inl w49.2.2.2.2.2.2.2.1))], [(A (b + 6), .inl (gI g, 144, .inl w49.2.2.2.2.2.2.2.2.1))]] → ∀ ls : Array Slot, lv_has ls 2 [(0, .ref (A b))] → W p l e R s m args below meth c H locs 0 0 Q (F0 m 49 ls []) := by
    intro w49 h H locs hW ls hl
    unfold f_X6_record_j49 at h
    refine lv_iconst (v := 0) hx hb dX6_record_49 (by decide) ?_
    refine lv_istore_n (lv' := [(1, .int 0), (0, .ref (A b))]) hx hb dX6_record_50 rfl hl (by decide) rfl (fun ls hl => ?_)
    have L51 : ∀ n51 : Nat, ∀ (v51 : Int32 × TX6s), lpN f_X6_record_l51 n51 v51 = some x' → ∀ (H : Heap) (locs : List Loc), WdG g Z s.heap H locs [[(A b, .inr (6, [.ref (A (b + 1)), .ref (A (b + 2)), .int v51.2.2.2.1, .ref (A (b + 3)), .int v51.2.2.2.2.2.1, .ref (A (b + 4)), .int v51.2.2.2.2.2.2.2.1, .ref (A (b + 5)), .ref (A (b + 6)), .int v51.2.2.2.2.2.2.2.2.2.2.1, .int v51.2.2.2.2.2.2.2.2.2.2.2.1, .int v51.2.2.2.2.2.2.2.2.2.2.2.2]))], [(A (b + 1), .inl (gI g, 268, .inl v51.2.1))], [(A (b + 2), .inl (gI g, 1340, .inl v51.2.2.1))], [(A (b + 3), .inl (gI g, 268, .inl v51.2.2.2.2.1))], [(A (b + 4), .inl (gC g, 70, .inl v51.2.2.2.2.2.2.1))], [(A (b + 5), .inl (gI g, 3, .inl v51.2.2.2.2.2.2.2.2.1))], [(A (b + 6), .inl (gI g, 144, .inl v51.2.2.2.2.2.2.2.2.2.1))]] → ∀ ls : Array Slot, lv_has ls 2 [(0, .ref (A b)), (1, .int v51.1)] → W p l e R s m args below meth c H locs 0 0 Q (F0 m 51 ls []) := by
      intro n51
      induction n51 with
      | zero => intro v51 h; exact absurd (show none = some x' from h) (fun h => by cases h)
      | succ n51 ih51 =>
        intro v51 h H locs hW ls hl
        replace h : f_X6_record_l51 (lpN f_X6_record_l51 n51) v51 = some x' := h
        unfold f_X6_record_l51 at h
        refine lv_iload_n hx hb dX6_record_51 rfl (lv_at hl 1 rfl) ?_
        refine lv_sipush (v := 268) hx hb dX6_record_52 (by decide) ?_
        refine lv_icmp_ge (tgt := 85) hx hb dX6_record_55 (by decide) (fun e1 => ?_) (fun e1 => ?_)
        · replace h := q_t e1 h
          refine lv_aload_n hx hb dX6_record_85 rfl (lv_at hl 0 rfl) ?_
          refine lv_dup hx hb dX6_record_86 rfl ?_
          refine r_get C hW (K := RX6) (T := TX6) (N := 12) (v := .int v51.2.2.2.1) 0 0 2 rfl rfl rfl inX6_record_X6 (by decide) (List.mem_of_getElem? (i := 1) rfl) rfl rfl dX6_record_87 ?_
          refine lv_iconst (v := 1) hx hb dX6_record_90 (by decide) ?_
          refine lv_iadd hx hb dX6_record_91 ?_
          refine r_put C hW (bs' := [[(A b, .inr (6, [.ref (A (b + 1)), .ref (A (b + 2)), .int (v51.2.2.2.1 + 1), .ref (A (b + 3)), .int v51.2.2.2.2.2.1, .ref (A (b + 4)), .int v51.2.2.2.2.2.2.2.1, .ref (A (b + 5)), .ref (A (b + 6)), .int v51.2.2.2.2.2.2.2.2.2.2.1, .int v51.2.2.2.2.2.2.2.2.2.2.2.1, .int v51.2.2.2.2.2.2.2.2.2.2.2.2]))], [(A (b + 1), .inl (gI g, 268, .inl v51.2.1))], [(A (b + 2), .inl (gI g, 1340, .inl v51.2.2.1))], [(A (b + 3), .inl (gI g, 268, .inl v51.2.2.2.2.1))], [(A (b + 4), .inl (gC g, 70, .inl v51.2.2.2.2.2.2.1))], [(A (b + 5), .inl (gI g, 3, .inl v51.2.2.2.2.2.2.2.2.1))], [(A (b + 6), .inl (gI g, 144, .inl v51.2.2.2.2.2.2.2.2.2.1))]]) (K := RX6) (T := TX6) (N := 12) 0 0 2 rfl rfl rfl inX6_record_X6 tyX6 tyX6_ok nmX6 (by decide) (List.mem_of_getElem? (i := 1) rfl) rfl rfl (tyX6_ok 2 (by decide)) rfl rfl (Nat.le_of_ble_eq_true rfl) dX6_record_92 rfl (fun H locs hW => ?_)
          cases h
          exact E _ _ _ _ _ hW rfl dX6_record_95
        · replace h := q_f e1 h
          refine lv_aload_n hx hb dX6_record_58 rfl (lv_at hl 0 rfl) ?_
          refine r_get C hW (K := RX6) (T := TX6) (N := 12) (v := .ref (A (b + 2))) 0 0 1 rfl rfl rfl inX6_record_X6 (by decide) (List.mem_of_getElem? (i := 2) rfl) rfl rfl dX6_record_59 ?_
          refine lv_aload_n hx hb dX6_record_62 rfl (lv_at hl 0 rfl) ?_
          refine r_get C hW (K := RX6) (T := TX6) (N := 12) (v := .int v51.2.2.2.1) 0 0 2 rfl rfl rfl inX6_record_X6 (by decide) (List.mem_of_getElem? (i := 1) rfl) rfl rfl dX6_record_63 ?_
          refine lv_sipush (v := 268) hx hb dX6_record_66 (by decide) ?_
          refine lv_imul hx hb dX6_record_69 ?_
          refine lv_iload_n hx hb dX6_record_70 rfl (lv_at hl 1 rfl) ?_
          refine lv_iadd hx hb dX6_record_71 ?_
          refine lv_aload_n hx hb dX6_record_72 rfl (lv_at hl 0 rfl) ?_
          refine r_get C hW (K := RX6) (T := TX6) (N := 12) (v := .ref (A (b + 1))) 0 0 0 rfl rfl rfl inX6_record_X6 (by decide) (List.mem_of_getElem? (i := 3) rfl) rfl rfl dX6_record_73 ?_
          refine lv_iload_n hx hb dX6_record_76 rfl (lv_at hl 1 rfl) ?_
          obtain ⟨g2, h⟩ := q_g h
          refine r_iald C hW 1 0 rfl rfl g2 dX6_record_77 ?_
          obtain ⟨g3, h⟩ := q_g h
          refine r_iast C hW (bs' := [[(A b, .inr (6, [.ref (A (b + 1)), .ref (A (b + 2)), .int v51.2.2.2.1, .ref (A (b + 3)), .int v51.2.2.2.2.2.1, .ref (A (b + 4)), .int v51.2.2.2.2.2.2.2.1, .ref (A (b + 5)), .ref (A (b + 6)), .int v51.2.2.2.2.2.2.2.2.2.2.1, .int v51.2.2.2.2.2.2.2.2.2.2.2.1, .int v51.2.2.2.2.2.2.2.2.2.2.2.2]))], [(A (b + 1), .inl (gI g, 268, .inl v51.2.1))], [(A (b + 2), .inl (gI g, 1340, .inl (upd v51.2.2.1 ((v51.2.2.2.1 * 268) + v51.1).toNatClampNeg (v51.2.1 (v51.1).toNatClampNeg))))], [(A (b + 3), .inl (gI g, 268, .inl v51.2.2.2.2.1))], [(A (b + 4), .inl (gC g, 70, .inl v51.2.2.2.2.2.2.1))], [(A (b + 5), .inl (gI g, 3, .inl v51.2.2.2.2.2.2.2.2.1))], [(A (b + 6), .inl (gI g, 144, .inl v51.2.2.2.2.2.2.2.2.2.1))]]) 2 0 rfl rfl g3 dX6_record_78 rfl (fun H locs hW => ?_)
          refine lv_iinc (v := (v51.1 + 1)) (lv' := [(1, .int (v51.1 + 1)), (0, .ref (A b))]) hx hb dX6_record_79 hl (k := 1) rfl rfl (by decide) rfl (fun ls hl => ?_)
          refine lv_goto (tgt := 51) hx hb dX6_record_82 (by decide) ?_
          exact ih51 ((v51.1 + 1), (v51.2.1, (upd v51.2.2.1 ((v51.2.2.2.1 * 268) + v51.1).toNatClampNeg (v51.2.1 (v51.1).toNatClampNeg)), v51.2.2.2.1, v51.2.2.2.2.1, v51.2.2.2.2.2.1, v51.2.2.2.2.2.2.1, v51.2.2.2.2.2.2.2.1, v51.2.2.2.2.2.2.2.2.1, v51.2.2.2.2.2.2.2.2.2.1, v51.2.2.2.2.2.2.2.2.2.2.1, v51.2.2.2.2.2.2.2.2.2.2.2.1, v51.2.2.2.2.2.2.2.2.2.2.2.2)) h _ _ hW _ (lv_sub hl [1, 0] rfl)
    exact L51 3000 (0, w49) h _ _ hW _ (lv_sub hl [1, 0] rfl)
  refine lv_icmp_ne (tgt := 49) hx hb dX6_record_5 (by decide) (fun e4 => ?_) (fun e4 => ?_)
  · replace h := q_f e4 h
    exact J49 x h _ _ hW _ (lv_sub hl [0] rfl)
  · replace h := q_t e4 h
    refine lv_iconst (v := 0) hx hb dX6_record_8 (by decide) ?_
    refine lv_istore_n (lv' := [(1, .int 0), (0, .ref (A b))]) hx hb dX6_record_9 rfl hl (by decide) rfl (fun ls hl => ?_)
    have L10 : ∀ n10 : Nat, ∀ (v10 : Int32 × TX6s), lpN f_X6_record_l10 n10 v10 = some x' → ∀ (H : Heap) (locs : List Loc), WdG g Z s.heap H locs [[(A b, .inr (6, [.ref (A (b + 1)), .ref (A (b + 2)), .int v10.2.2.2.1, .ref (A (b + 3)), .int v10.2.2.2.2.2.1, .ref (A (b + 4)), .int v10.2.2.2.2.2.2.2.1, .ref (A (b + 5)), .ref (A (b + 6)), .int v10.2.2.2.2.2.2.2.2.2.2.1, .int v10.2.2.2.2.2.2.2.2.2.2.2.1, .int v10.2.2.2.2.2.2.2.2.2.2.2.2]))], [(A (b + 1), .inl (gI g, 268, .inl v10.2.1))], [(A (b + 2), .inl (gI g, 1340, .inl v10.2.2.1))], [(A (b + 3), .inl (gI g, 268, .inl v10.2.2.2.2.1))], [(A (b + 4), .inl (gC g, 70, .inl v10.2.2.2.2.2.2.1))], [(A (b + 5), .inl (gI g, 3, .inl v10.2.2.2.2.2.2.2.2.1))], [(A (b + 6), .inl (gI g, 144, .inl v10.2.2.2.2.2.2.2.2.2.1))]] → ∀ ls : Array Slot, lv_has ls 2 [(0, .ref (A b)), (1, .int v10.1)] → W p l e R s m args below meth c H locs 0 0 Q (F0 m 10 ls []) := by
      intro n10
      induction n10 with
      | zero => intro v10 h; exact absurd (show none = some x' from h) (fun h => by cases h)
      | succ n10 ih10 =>
        intro v10 h H locs hW ls hl
        replace h : f_X6_record_l10 (lpN f_X6_record_l10 n10) v10 = some x' := h
        unfold f_X6_record_l10 at h
        refine lv_iload_n hx hb dX6_record_10 rfl (lv_at hl 1 rfl) ?_
        refine lv_sipush (v := 1072) hx hb dX6_record_11 (by decide) ?_
        refine lv_icmp_ge (tgt := 39) hx hb dX6_record_14 (by decide) (fun e5 => ?_) (fun e5 => ?_)
        · replace h := q_t e5 h
          refine lv_aload_n hx hb dX6_record_39 rfl (lv_at hl 0 rfl) ?_
          refine lv_dup hx hb dX6_record_40 rfl ?_
          refine r_get C hW (K := RX6) (T := TX6) (N := 12) (v := .int v10.2.2.2.1) 0 0 2 rfl rfl rfl inX6_record_X6 (by decide) (List.mem_of_getElem? (i := 1) rfl) rfl rfl dX6_record_41 ?_
          refine lv_iconst (v := 1) hx hb dX6_record_44 (by decide) ?_
          refine lv_isub hx hb dX6_record_45 ?_
          refine r_put C hW (bs' := [[(A b, .inr (6, [.ref (A (b + 1)), .ref (A (b + 2)), .int (v10.2.2.2.1 - 1), .ref (A (b + 3)), .int v10.2.2.2.2.2.1, .ref (A (b + 4)), .int v10.2.2.2.2.2.2.2.1, .ref (A (b + 5)), .ref (A (b + 6)), .int v10.2.2.2.2.2.2.2.2.2.2.1, .int v10.2.2.2.2.2.2.2.2.2.2.2.1, .int v10.2.2.2.2.2.2.2.2.2.2.2.2]))], [(A (b + 1), .inl (gI g, 268, .inl v10.2.1))], [(A (b + 2), .inl (gI g, 1340, .inl v10.2.2.1))], [(A (b + 3), .inl (gI g, 268, .inl v10.2.2.2.2.1))], [(A (b + 4), .inl (gC g, 70, .inl v10.2.2.2.2.2.2.1))], [(A (b + 5), .inl (gI g, 3, .inl v10.2.2.2.2.2.2.2.2.1))], [(A (b + 6), .inl (gI g, 144, .inl v10.2.2.2.2.2.2.2.2.2.1))]]) (K := RX6) (T := TX6) (N := 12) 0 0 2 rfl rfl rfl inX6_record_X6 tyX6 tyX6_ok nmX6 (by decide) (List.mem_of_getElem? (i := 1) rfl) rfl rfl (tyX6_ok 2 (by decide)) rfl rfl (Nat.le_of_ble_eq_true rfl) dX6_record_46 rfl (fun H locs hW => ?_)
          exact J49 (v10.2.1, v10.2.2.1, (v10.2.2.2.1 - 1), v10.2.2.2.2.1, v10.2.2.2.2.2.1, v10.2.2.2.2.2.2.1, v10.2.2.2.2.2.2.2.1, v10.2.2.2.2.2.2.2.2.1, v10.2.2.2.2.2.2.2.2.2.1, v10.2.2.2.2.2.2.2.2.2.2.1, v10.2.2.2.2.2.2.2.2.2.2.2.1, v10.2.2.2.2.2.2.2.2.2.2.2.2) h _ _ hW _ (lv_sub hl [0] rfl)
        · replace h := q_f e5 h
          refine lv_aload_n hx hb dX6_record_17 rfl (lv_at hl 0 rfl) ?_
          refine r_get C hW (K := RX6) (T := TX6) (N := 12) (v := .ref (A (b + 2))) 0 0 1 rfl rfl rfl inX6_record_X6 (by decide) (List.mem_of_getElem? (i := 2) rfl) rfl rfl dX6_record_18 ?_
          refine lv_iload_n hx hb dX6_record_21 rfl (lv_at hl 1 rfl) ?_
          refine lv_aload_n hx hb dX6_record_22 rfl (lv_at hl 0 rfl) ?_
          refine r_get C hW (K := RX6) (T := TX6) (N := 12) (v := .ref (A (b + 2))) 0 0 1 rfl rfl rfl inX6_record_X6 (by decide) (List.mem_of_getElem? (i := 2) rfl) rfl rfl dX6_record_23 ?_
          refine lv_iload_n hx hb dX6_record_26 rfl (lv_at hl 1 rfl) ?_
          refine lv_sipush (v := 268) hx hb dX6_record_27 (by decide) ?_
          refine lv_iadd hx hb dX6_record_30 ?_
          obtain ⟨g6, h⟩ := q_g h
          refine r_iald C hW 2 0 rfl rfl g6 dX6_record_31 ?_
          obtain ⟨g7, h⟩ := q_g h
          refine r_iast C hW (bs' := [[(A b, .inr (6, [.ref (A (b + 1)), .ref (A (b + 2)), .int v10.2.2.2.1, .ref (A (b + 3)), .int v10.2.2.2.2.2.1, .ref (A (b + 4)), .int v10.2.2.2.2.2.2.2.1, .ref (A (b + 5)), .ref (A (b + 6)), .int v10.2.2.2.2.2.2.2.2.2.2.1, .int v10.2.2.2.2.2.2.2.2.2.2.2.1, .int v10.2.2.2.2.2.2.2.2.2.2.2.2]))], [(A (b + 1), .inl (gI g, 268, .inl v10.2.1))], [(A (b + 2), .inl (gI g, 1340, .inl (upd v10.2.2.1 (v10.1).toNatClampNeg (v10.2.2.1 (v10.1 + 268).toNatClampNeg))))], [(A (b + 3), .inl (gI g, 268, .inl v10.2.2.2.2.1))], [(A (b + 4), .inl (gC g, 70, .inl v10.2.2.2.2.2.2.1))], [(A (b + 5), .inl (gI g, 3, .inl v10.2.2.2.2.2.2.2.2.1))], [(A (b + 6), .inl (gI g, 144, .inl v10.2.2.2.2.2.2.2.2.2.1))]]) 2 0 rfl rfl g7 dX6_record_32 rfl (fun H locs hW => ?_)
          refine lv_iinc (v := (v10.1 + 1)) (lv' := [(1, .int (v10.1 + 1)), (0, .ref (A b))]) hx hb dX6_record_33 hl (k := 1) rfl rfl (by decide) rfl (fun ls hl => ?_)
          refine lv_goto (tgt := 10) hx hb dX6_record_36 (by decide) ?_
          exact ih10 ((v10.1 + 1), (v10.2.1, (upd v10.2.2.1 (v10.1).toNatClampNeg (v10.2.2.1 (v10.1 + 268).toNatClampNeg)), v10.2.2.2.1, v10.2.2.2.2.1, v10.2.2.2.2.2.1, v10.2.2.2.2.2.2.1, v10.2.2.2.2.2.2.2.1, v10.2.2.2.2.2.2.2.2.1, v10.2.2.2.2.2.2.2.2.2.1, v10.2.2.2.2.2.2.2.2.2.2.1, v10.2.2.2.2.2.2.2.2.2.2.2.1, v10.2.2.2.2.2.2.2.2.2.2.2.2)) h _ _ hW _ (lv_sub hl [1, 0] rfl)
    exact L10 3000 (0, x) h _ _ hW _ (lv_sub hl [1, 0] rfl)
def f_X6_undo_l22 (k22 : (Int32 × TX6s) → Option (Int32 × TX6s)) (v22 : Int32 × TX6s) : Option (Int32 × TX6s) :=
if 268 ≤ v22.1 then (
some (v22.2.2.2.1, v22.2))
else (
if ((v22.2.2.2.1 * 268) + v22.1) < 0 ∨ 1340 ≤ ((v22.2.2.2.1 * 268) + v22.1).toNatClampNeg then none else
if v22.1 < 0 ∨ 268 ≤ (v22.1).toNatClampNeg then none else
k22 ((v22.1 + 1), ((upd v22.2.1 (v22.1).toNatClampNeg (v22.2.2.1 ((v22.2.2.2.1 * 268) + v22.1).toNatClampNeg)), v22.2.2.1, v22.2.2.2.1, v22.2.2.2.2.1, v22.2.2.2.2.2.1, v22.2.2.2.2.2.2.1, v22.2.2.2.2.2.2.2.1, v22.2.2.2.2.2.2.2.2.1, v22.2.2.2.2.2.2.2.2.2.1, v22.2.2.2.2.2.2.2.2.2.2.1, v22.2.2.2.2.2.2.2.2.2.2.2.1, v22.2.2.2.2.2.2.2.2.2.2.2.2)))
def f_X6_undo (x : TX6s) : Option (Int32 × TX6s) :=
if x.2.2.1 = 0 then (
some ((-3), x))
else (
lpN f_X6_undo_l22 3000 (0, (x.1, x.2.1, (x.2.2.1 - 1), x.2.2.2.1, x.2.2.2.2.1, x.2.2.2.2.2.1, x.2.2.2.2.2.2.1, x.2.2.2.2.2.2.2.1, x.2.2.2.2.2.2.2.2.1, x.2.2.2.2.2.2.2.2.2.1, x.2.2.2.2.2.2.2.2.2.2.1, x.2.2.2.2.2.2.2.2.2.2.2)))
theorem wo_X6_undo : wordsOk yX6_undo 0 := by decide +kernel
theorem inX6_undo_X6 : ∀ w ∈ wsX60, w ∈ wsX6_undo := fun _ h => List.mem_cons_of_mem _ (List.mem_append_right _ h)
set_option maxHeartbeats 4000000 in
set_option maxRecDepth 100000 in
theorem c_X6_undo (l : Launch) (g : GG) (A : Nat → Nat) (b : Nat) (x : TX6s) (r : Int32) (x' : TX6s) (h : f_X6_undo x = some (r, x')) : CI l yX6_undo wsX6_undo 0 0 g [.ref (A b)] (wX6 g A b x) r (wX6 g A b x') := by
  refine CI.mk (own := RX6) (by decide) rfl rfl (Nat.le_of_ble_eq_true rfl) ?_
  intro p e R s m args below meth c Z Q C E hR H hW ls hl
  have hx := C.1.1
  have hb := C.1.2.1
  have hown := C.1.2.2.2.1
  replace hW : WdG g Z s.heap H [] [[(A b, .inr (6, [.ref (A (b + 1)), .ref (A (b + 2)), .int x.2.2.1, .ref (A (b + 3)), .int x.2.2.2.2.1, .ref (A (b + 4)), .int x.2.2.2.2.2.2.1, .ref (A (b + 5)), .ref (A (b + 6)), .int x.2.2.2.2.2.2.2.2.2.1, .int x.2.2.2.2.2.2.2.2.2.2.1, .int x.2.2.2.2.2.2.2.2.2.2.2]))], [(A (b + 1), .inl (gI g, 268, .inl x.1))], [(A (b + 2), .inl (gI g, 1340, .inl x.2.1))], [(A (b + 3), .inl (gI g, 268, .inl x.2.2.2.1))], [(A (b + 4), .inl (gC g, 70, .inl x.2.2.2.2.2.1))], [(A (b + 5), .inl (gI g, 3, .inl x.2.2.2.2.2.2.2.1))], [(A (b + 6), .inl (gI g, 144, .inl x.2.2.2.2.2.2.2.2.1))]] := hW.re rfl
  replace hl : lv_has ls 2 [(0, .ref (A b))] := hl
  unfold f_X6_undo at h
  refine lv_aload_n hx hb dX6_undo_0 rfl (lv_at hl 0 rfl) ?_
  refine r_get C hW (K := RX6) (T := TX6) (N := 12) (v := .int x.2.2.1) 0 0 2 rfl rfl rfl inX6_undo_X6 (by decide) (List.mem_of_getElem? (i := 1) rfl) rfl rfl dX6_undo_1 ?_
  refine lv_if_ne (tgt := 10) hx hb dX6_undo_4 (by decide) (fun e1 => ?_) (fun e1 => ?_)
  · replace h := q_f e1 h
    refine lv_aload_n hx hb dX6_undo_10 rfl (lv_at hl 0 rfl) ?_
    refine lv_dup hx hb dX6_undo_11 rfl ?_
    refine r_get C hW (K := RX6) (T := TX6) (N := 12) (v := .int x.2.2.1) 0 0 2 rfl rfl rfl inX6_undo_X6 (by decide) (List.mem_of_getElem? (i := 1) rfl) rfl rfl dX6_undo_12 ?_
    refine lv_iconst (v := 1) hx hb dX6_undo_15 (by decide) ?_
    refine lv_isub hx hb dX6_undo_16 ?_
    refine r_put C hW (bs' := [[(A b, .inr (6, [.ref (A (b + 1)), .ref (A (b + 2)), .int (x.2.2.1 - 1), .ref (A (b + 3)), .int x.2.2.2.2.1, .ref (A (b + 4)), .int x.2.2.2.2.2.2.1, .ref (A (b + 5)), .ref (A (b + 6)), .int x.2.2.2.2.2.2.2.2.2.1, .int x.2.2.2.2.2.2.2.2.2.2.1, .int x.2.2.2.2.2.2.2.2.2.2.2]))], [(A (b + 1), .inl (gI g, 268, .inl x.1))], [(A (b + 2), .inl (gI g, 1340, .inl x.2.1))], [(A (b + 3), .inl (gI g, 268, .inl x.2.2.2.1))], [(A (b + 4), .inl (gC g, 70, .inl x.2.2.2.2.2.1))], [(A (b + 5), .inl (gI g, 3, .inl x.2.2.2.2.2.2.2.1))], [(A (b + 6), .inl (gI g, 144, .inl x.2.2.2.2.2.2.2.2.1))]]) (K := RX6) (T := TX6) (N := 12) 0 0 2 rfl rfl rfl inX6_undo_X6 tyX6 tyX6_ok nmX6 (by decide) (List.mem_of_getElem? (i := 1) rfl) rfl rfl (tyX6_ok 2 (by decide)) rfl rfl (Nat.le_of_ble_eq_true rfl) dX6_undo_17 rfl (fun H locs hW => ?_)
    refine lv_iconst (v := 0) hx hb dX6_undo_20 (by decide) ?_
    refine lv_istore_n (lv' := [(1, .int 0), (0, .ref (A b))]) hx hb dX6_undo_21 rfl hl (by decide) rfl (fun ls hl => ?_)
    have L22 : ∀ n22 : Nat, ∀ (v22 : Int32 × TX6s), lpN f_X6_undo_l22 n22 v22 = some (r, x') → ∀ (H : Heap) (locs : List Loc), WdG g Z s.heap H locs [[(A b, .inr (6, [.ref (A (b + 1)), .ref (A (b + 2)), .int v22.2.2.2.1, .ref (A (b + 3)), .int v22.2.2.2.2.2.1, .ref (A (b + 4)), .int v22.2.2.2.2.2.2.2.1, .ref (A (b + 5)), .ref (A (b + 6)), .int v22.2.2.2.2.2.2.2.2.2.2.1, .int v22.2.2.2.2.2.2.2.2.2.2.2.1, .int v22.2.2.2.2.2.2.2.2.2.2.2.2]))], [(A (b + 1), .inl (gI g, 268, .inl v22.2.1))], [(A (b + 2), .inl (gI g, 1340, .inl v22.2.2.1))], [(A (b + 3), .inl (gI g, 268, .inl v22.2.2.2.2.1))], [(A (b + 4), .inl (gC g, 70, .inl v22.2.2.2.2.2.2.1))], [(A (b + 5), .inl (gI g, 3, .inl v22.2.2.2.2.2.2.2.2.1))], [(A (b + 6), .inl (gI g, 144, .inl v22.2.2.2.2.2.2.2.2.2.1))]] → ∀ ls : Array Slot, lv_has ls 2 [(0, .ref (A b)), (1, .int v22.1)] → W p l e R s m args below meth c H locs 0 0 Q (F0 m 22 ls []) := by
      intro n22
      induction n22 with
      | zero => intro v22 h; exact absurd (show none = some (r, x') from h) (fun h => by cases h)
      | succ n22 ih22 =>
        intro v22 h H locs hW ls hl
        replace h : f_X6_undo_l22 (lpN f_X6_undo_l22 n22) v22 = some (r, x') := h
        unfold f_X6_undo_l22 at h
        refine lv_iload_n hx hb dX6_undo_22 rfl (lv_at hl 1 rfl) ?_
        refine lv_sipush (v := 268) hx hb dX6_undo_23 (by decide) ?_
        refine lv_icmp_ge (tgt := 56) hx hb dX6_undo_26 (by decide) (fun e2 => ?_) (fun e2 => ?_)
        · replace h := q_t e2 h
          refine lv_aload_n hx hb dX6_undo_56 rfl (lv_at hl 0 rfl) ?_
          refine r_get C hW (K := RX6) (T := TX6) (N := 12) (v := .int v22.2.2.2.1) 0 0 2 rfl rfl rfl inX6_undo_X6 (by decide) (List.mem_of_getElem? (i := 1) rfl) rfl rfl dX6_undo_57 ?_
          cases h
          exact E _ _ _ _ _ hW rfl rfl dX6_undo_60
        · replace h := q_f e2 h
          refine lv_aload_n hx hb dX6_undo_29 rfl (lv_at hl 0 rfl) ?_
          refine r_get C hW (K := RX6) (T := TX6) (N := 12) (v := .ref (A (b + 1))) 0 0 0 rfl rfl rfl inX6_undo_X6 (by decide) (List.mem_of_getElem? (i := 2) rfl) rfl rfl dX6_undo_30 ?_
          refine lv_iload_n hx hb dX6_undo_33 rfl (lv_at hl 1 rfl) ?_
          refine lv_aload_n hx hb dX6_undo_34 rfl (lv_at hl 0 rfl) ?_
          refine r_get C hW (K := RX6) (T := TX6) (N := 12) (v := .ref (A (b + 2))) 0 0 1 rfl rfl rfl inX6_undo_X6 (by decide) (List.mem_of_getElem? (i := 3) rfl) rfl rfl dX6_undo_35 ?_
          refine lv_aload_n hx hb dX6_undo_38 rfl (lv_at hl 0 rfl) ?_
          refine r_get C hW (K := RX6) (T := TX6) (N := 12) (v := .int v22.2.2.2.1) 0 0 2 rfl rfl rfl inX6_undo_X6 (by decide) (List.mem_of_getElem? (i := 1) rfl) rfl rfl dX6_undo_39 ?_
          refine lv_sipush (v := 268) hx hb dX6_undo_42 (by decide) ?_
          refine lv_imul hx hb dX6_undo_45 ?_
          refine lv_iload_n hx hb dX6_undo_46 rfl (lv_at hl 1 rfl) ?_
          refine lv_iadd hx hb dX6_undo_47 ?_
          obtain ⟨g3, h⟩ := q_g h
          refine r_iald C hW 2 0 rfl rfl g3 dX6_undo_48 ?_
          obtain ⟨g4, h⟩ := q_g h
          refine r_iast C hW (bs' := [[(A b, .inr (6, [.ref (A (b + 1)), .ref (A (b + 2)), .int v22.2.2.2.1, .ref (A (b + 3)), .int v22.2.2.2.2.2.1, .ref (A (b + 4)), .int v22.2.2.2.2.2.2.2.1, .ref (A (b + 5)), .ref (A (b + 6)), .int v22.2.2.2.2.2.2.2.2.2.2.1, .int v22.2.2.2.2.2.2.2.2.2.2.2.1, .int v22.2.2.2.2.2.2.2.2.2.2.2.2]))], [(A (b + 1), .inl (gI g, 268, .inl (upd v22.2.1 (v22.1).toNatClampNeg (v22.2.2.1 ((v22.2.2.2.1 * 268) + v22.1).toNatClampNeg))))], [(A (b + 2), .inl (gI g, 1340, .inl v22.2.2.1))], [(A (b + 3), .inl (gI g, 268, .inl v22.2.2.2.2.1))], [(A (b + 4), .inl (gC g, 70, .inl v22.2.2.2.2.2.2.1))], [(A (b + 5), .inl (gI g, 3, .inl v22.2.2.2.2.2.2.2.2.1))], [(A (b + 6), .inl (gI g, 144, .inl v22.2.2.2.2.2.2.2.2.2.1))]]) 1 0 rfl rfl g4 dX6_undo_49 rfl (fun H locs hW => ?_)
          refine lv_iinc (v := (v22.1 + 1)) (lv' := [(1, .int (v22.1 + 1)), (0, .ref (A b))]) hx hb dX6_undo_50 hl (k := 1) rfl rfl (by decide) rfl (fun ls hl => ?_)
          refine lv_goto (tgt := 22) hx hb dX6_undo_53 (by decide) ?_
          exact ih22 ((v22.1 + 1), ((upd v22.2.1 (v22.1).toNatClampNeg (v22.2.2.1 ((v22.2.2.2.1 * 268) + v22.1).toNatClampNeg)), v22.2.2.1, v22.2.2.2.1, v22.2.2.2.2.1, v22.2.2.2.2.2.1, v22.2.2.2.2.2.2.1, v22.2.2.2.2.2.2.2.1, v22.2.2.2.2.2.2.2.2.1, v22.2.2.2.2.2.2.2.2.2.1, v22.2.2.2.2.2.2.2.2.2.2.1, v22.2.2.2.2.2.2.2.2.2.2.2.1, v22.2.2.2.2.2.2.2.2.2.2.2.2)) h _ _ hW _ (lv_sub hl [1, 0] rfl)
    exact L22 3000 (0, (x.1, x.2.1, (x.2.2.1 - 1), x.2.2.2.1, x.2.2.2.2.1, x.2.2.2.2.2.1, x.2.2.2.2.2.2.1, x.2.2.2.2.2.2.2.1, x.2.2.2.2.2.2.2.2.1, x.2.2.2.2.2.2.2.2.2.1, x.2.2.2.2.2.2.2.2.2.2.1, x.2.2.2.2.2.2.2.2.2.2.2)) h _ _ hW _ (lv_sub hl [1, 0] rfl)
  · replace h := q_t e1 h
    refine lv_bipush (v := (-3)) hx hb dX6_undo_7 (by decide) ?_
    cases h
    exact E _ _ _ _ _ hW rfl rfl dX6_undo_9
