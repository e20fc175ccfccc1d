def f_X6_isFree (x : TX6s) (p1 : Int32) (p2 : Int32) (p3 : Int32) : Option (Int32) :=
(f_X6_wayAt x p1 p2).bind fun t1 =>
if t1 = (1 - p3) then (
some 0)
else (
some 1)
theorem wo_X6_isFree : wordsOk yX6_isFree 3 := by decide +kernel
set_option maxHeartbeats 4000000 in
set_option maxRecDepth 100000 in
theorem c_X6_isFree (l : Launch) (g : GG) (A : Nat → Nat) (b : Nat) (x : TX6s) (p1 : Int32) (p2 : Int32) (p3 : Int32) (r : Int32) (h : f_X6_isFree x p1 p2 p3 = some r) : CI l yX6_isFree wsX6_isFree 2 44 g [.ref (A b), .int p1, .int p2, .int p3] (wX6 g A b x) r (wX6 g A b x) := by
  refine CI.mk (own := RX6) (by decide) rfl rfl (Nat.le_of_ble_eq_true rfl) ?_
  intro p e R s m args below meth c Z Q C E hR H hW ls hl
  have hx := C.1.1
  have hb := C.1.2.1
  have hown := C.1.2.2.2.1
  replace hW : WdG g Z s.heap H [] [[(A b, .inr (6, [.ref (A (b + 1)), .ref (A (b + 2)), .int x.2.2.1, .ref (A (b + 3)), .int x.2.2.2.2.1, .ref (A (b + 4)), .int x.2.2.2.2.2.2.1, .ref (A (b + 5)), .ref (A (b + 6)), .int x.2.2.2.2.2.2.2.2.2.1, .int x.2.2.2.2.2.2.2.2.2.2.1, .int x.2.2.2.2.2.2.2.2.2.2.2]))], [(A (b + 1), .inl (gI g, 268, .inl x.1))], [(A (b + 2), .inl (gI g, 1340, .inl x.2.1))], [(A (b + 3), .inl (gI g, 268, .inl x.2.2.2.1))], [(A (b + 4), .inl (gC g, 70, .inl x.2.2.2.2.2.1))], [(A (b + 5), .inl (gI g, 3, .inl x.2.2.2.2.2.2.2.1))], [(A (b + 6), .inl (gI g, 144, .inl x.2.2.2.2.2.2.2.2.1))]] := hW.re rfl
  replace hl : lv_has ls 4 [(0, .ref (A b)), (1, .int p1), (2, .int p2), (3, .int p3)] := hl
  unfold f_X6_isFree at h
  refine lv_aload_n hx hb dX6_isFree_0 rfl (lv_at hl 0 rfl) ?_
  refine lv_iload_n hx hb dX6_isFree_1 rfl (lv_at hl 1 rfl) ?_
  refine lv_iload_n hx hb dX6_isFree_2 rfl (lv_at hl 2 rfl) ?_
  obtain ⟨t1, h2, h⟩ := q_b h
  refine r_cVi C hW (nA := 2) (As := [.int p1, .int p2]) (rest := []) (c_X6_wayAt l g A b x p1 p2 _ h2) gX6_isFree_X6_wayAt rfl ⟨rfl, wo_X6_wayAt⟩ (rmk hR rfl rfl) rfl rfl rfl rfl hl.1 (Nat.le_of_ble_eq_true rfl) rz dX6_isFree_3 (n := 7) (is := [0, 1, 2, 3, 4, 5, 6]) (rs := []) (bs' := [[(A b, .inr (6, [.ref (A (b + 1)), .ref (A (b + 2)), .int x.2.2.1, .ref (A (b + 3)), .int x.2.2.2.2.1, .ref (A (b + 4)), .int x.2.2.2.2.2.2.1, .ref (A (b + 5)), .ref (A (b + 6)), .int x.2.2.2.2.2.2.2.2.2.1, .int x.2.2.2.2.2.2.2.2.2.2.1, .int x.2.2.2.2.2.2.2.2.2.2.2]))], [(A (b + 1), .inl (gI g, 268, .inl x.1))], [(A (b + 2), .inl (gI g, 1340, .inl x.2.1))], [(A (b + 3), .inl (gI g, 268, .inl x.2.2.2.1))], [(A (b + 4), .inl (gC g, 70, .inl x.2.2.2.2.2.1))], [(A (b + 5), .inl (gI g, 3, .inl x.2.2.2.2.2.2.2.1))], [(A (b + 6), .inl (gI g, 144, .inl x.2.2.2.2.2.2.2.2.1))]]) rfl rfl pm_39 rfl rfl rfl (fun H locs hW => ?_)
  refine lv_iconst (v := 1) hx hb dX6_isFree_6 (by decide) ?_
  refine lv_iload_n hx hb dX6_isFree_7 rfl (lv_at hl 3 rfl) ?_
  refine lv_isub hx hb dX6_isFree_8 ?_
  refine lv_icmp_eq (tgt := 16) hx hb dX6_isFree_9 (by decide) (fun e3 => ?_) (fun e3 => ?_)
  · replace h := q_t e3 h
    refine lv_iconst (v := 0) hx hb dX6_isFree_16 (by decide) ?_
    cases h
    exact E _ _ _ _ _ hW rfl rfl dX6_isFree_17
  · replace h := q_f e3 h
    refine lv_iconst (v := 1) hx hb dX6_isFree_12 (by decide) ?_
    refine lv_goto (tgt := 17) hx hb dX6_isFree_13 (by decide) ?_
    cases h
    exact E _ _ _ _ _ hW rfl rfl dX6_isFree_17
def f_X6_cell (x : TX6s) (p1 : Int32) (p2 : Int32) (p3 : Int32) : Option (Int32) :=
(f_X6_isCell p1 p2).bind fun t1 =>
if t1 = 0 then (
some (-1))
else (
(f_X6_cellAt p1 p2).bind fun t4 =>
if p3 < 0 then (
some (-2))
else if 6 < p3 then (
some (-2))
else if p3 = 0 then (
(f_X6_wayAt x p1 p2).bind fun t9 =>
some t9)
else if p3 = 1 then (
if (t4 + p3) < 0 ∨ 268 ≤ (t4 + p3).toNatClampNeg then none else
some (x.1 (t4 + p3).toNatClampNeg))
else if p3 = 2 then (
if (t4 + 2) < 0 ∨ 268 ≤ (t4 + 2).toNatClampNeg then none else
if (x.1 (t4 + 2).toNatClampNeg) = 0 then (
some (-6))
else (
if (t4 + 2) < 0 ∨ 268 ≤ (t4 + 2).toNatClampNeg then none else
some ((x.1 (t4 + 2).toNatClampNeg) - 1)))
else if p3 = 3 then (
if (t4 + p3) < 0 ∨ 268 ≤ (t4 + p3).toNatClampNeg then none else
some (x.1 (t4 + p3).toNatClampNeg))
else if p3 = 4 then (
(f_X6_isRead x p1 p2).bind fun t20 =>
if t20 = 0 then (
some 0)
else (
some 1))
else if p3 = 5 then (
(f_X6_isFree x p1 p2 (p3 - 5)).bind fun t24 =>
if t24 = 0 then (
some 0)
else (
some 1))
else if p3 = 6 then (
(f_X6_isFree x p1 p2 (p3 - 5)).bind fun t28 =>
if t28 = 0 then (
some 0)
else (
some 1))
else none)
theorem wo_X6_cell : wordsOk yX6_cell 3 := by decide +kernel
theorem inX6_cell_X6 : ∀ w ∈ wsX60, w ∈ wsX6_cell := fun _ h => List.mem_cons_of_mem _ (List.mem_append_right _ h)
set_option maxHeartbeats 4000000 in
set_option maxRecDepth 100000 in
theorem c_X6_cell (l : Launch) (g : GG) (A : Nat → Nat) (b : Nat) (x : TX6s) (p1 : Int32) (p2 : Int32) (p3 : Int32) (r : Int32) (h : f_X6_cell x p1 p2 p3 = some r) : CI l yX6_cell wsX6_cell 3 67 g [.ref (A b), .int p1, .int p2, .int p3] (wX6 g A b x) r (wX6 g A b x) := by
  refine CI.mk (own := RX6) (by decide) rfl rfl (Nat.le_of_ble_eq_true rfl) ?_
  intro p e R s m args below meth c Z Q C E hR H hW ls hl
  have hx := C.1.1
  have hb := C.1.2.1
  have hown := C.1.2.2.2.1
  replace hW : WdG g Z s.heap H [] [[(A b, .inr (6, [.ref (A (b + 1)), .ref (A (b + 2)), .int x.2.2.1, .ref (A (b + 3)), .int x.2.2.2.2.1, .ref (A (b + 4)), .int x.2.2.2.2.2.2.1, .ref (A (b + 5)), .ref (A (b + 6)), .int x.2.2.2.2.2.2.2.2.2.1, .int x.2.2.2.2.2.2.2.2.2.2.1, .int x.2.2.2.2.2.2.2.2.2.2.2]))], [(A (b + 1), .inl (gI g, 268, .inl x.1))], [(A (b + 2), .inl (gI g, 1340, .inl x.2.1))], [(A (b + 3), .inl (gI g, 268, .inl x.2.2.2.1))], [(A (b + 4), .inl (gC g, 70, .inl x.2.2.2.2.2.1))], [(A (b + 5), .inl (gI g, 3, .inl x.2.2.2.2.2.2.2.1))], [(A (b + 6), .inl (gI g, 144, .inl x.2.2.2.2.2.2.2.2.1))]] := hW.re rfl
  replace hl : lv_has ls 5 [(0, .ref (A b)), (1, .int p1), (2, .int p2), (3, .int p3)] := hl
  unfold f_X6_cell at h
  refine lv_iload_n hx hb dX6_cell_0 rfl (lv_at hl 1 rfl) ?_
  refine lv_iload_n hx hb dX6_cell_1 rfl (lv_at hl 2 rfl) ?_
  obtain ⟨t1, h2, h⟩ := q_b h
  refine r_cSi C hW (nA := 2) (As := [.int p1, .int p2]) (rest := []) (c_X6_isCell l g p1 p2 _ h2) gX6_cell_X6_isCell rfl wo_X6_isCell (rmk hR rfl rfl) rfl rfl hl.1 (Nat.le_of_ble_eq_true rfl) rz dX6_cell_2 (n := 7) (is := []) (rs := [0, 1, 2, 3, 4, 5, 6]) (bs' := [[(A b, .inr (6, [.ref (A (b + 1)), .ref (A (b + 2)), .int x.2.2.1, .ref (A (b + 3)), .int x.2.2.2.2.1, .ref (A (b + 4)), .int x.2.2.2.2.2.2.1, .ref (A (b + 5)), .ref (A (b + 6)), .int x.2.2.2.2.2.2.2.2.2.1, .int x.2.2.2.2.2.2.2.2.2.2.1, .int x.2.2.2.2.2.2.2.2.2.2.2]))], [(A (b + 1), .inl (gI g, 268, .inl x.1))], [(A (b + 2), .inl (gI g, 1340, .inl x.2.1))], [(A (b + 3), .inl (gI g, 268, .inl x.2.2.2.1))], [(A (b + 4), .inl (gC g, 70, .inl x.2.2.2.2.2.1))], [(A (b + 5), .inl (gI g, 3, .inl x.2.2.2.2.2.2.2.1))], [(A (b + 6), .inl (gI g, 144, .inl x.2.2.2.2.2.2.2.2.1))]]) rfl rfl pm_38 rfl rfl rfl (fun H locs hW => ?_)
  refine lv_if_ne (tgt := 10) hx hb dX6_cell_5 (by decide) (fun e3 => ?_) (fun e3 => ?_)
  · replace h := q_f e3 h
    refine lv_iload_n hx hb dX6_cell_10 rfl (lv_at hl 1 rfl) ?_
    refine lv_iload_n hx hb dX6_cell_11 rfl (lv_at hl 2 rfl) ?_
    obtain ⟨t4, h5, h⟩ := q_b h
    refine r_cSi C hW (nA := 2) (As := [.int p1, .int p2]) (rest := []) (c_X6_cellAt l g p1 p2 _ h5) gX6_cell_X6_cellAt rfl wo_X6_cellAt (rmk hR rfl rfl) rfl rfl hl.1 (Nat.le_of_ble_eq_true rfl) rz dX6_cell_12 (n := 7) (is := []) (rs := [0, 1, 2, 3, 4, 5, 6]) (bs' := [[(A b, .inr (6, [.ref (A (b + 1)), .ref (A (b + 2)), .int x.2.2.1, .ref (A (b + 3)), .int x.2.2.2.2.1, .ref (A (b + 4)), .int x.2.2.2.2.2.2.1, .ref (A (b + 5)), .ref (A (b + 6)), .int x.2.2.2.2.2.2.2.2.2.1, .int x.2.2.2.2.2.2.2.2.2.2.1, .int x.2.2.2.2.2.2.2.2.2.2.2]))], [(A (b + 1), .inl (gI g, 268, .inl x.1))], [(A (b + 2), .inl (gI g, 1340, .inl x.2.1))], [(A (b + 3), .inl (gI g, 268, .inl x.2.2.2.1))], [(A (b + 4), .inl (gC g, 70, .inl x.2.2.2.2.2.1))], [(A (b + 5), .inl (gI g, 3, .inl x.2.2.2.2.2.2.2.1))], [(A (b + 6), .inl (gI g, 144, .inl x.2.2.2.2.2.2.2.2.1))]]) rfl rfl pm_38 rfl rfl rfl (fun H locs hW => ?_)
    refine lv_istore (lv' := [(4, .int t4), (0, .ref (A b)), (1, .int p1), (2, .int p2), (3, .int p3)]) hx hb dX6_cell_15 hl (by decide) rfl (fun ls hl => ?_)
    refine lv_iload_n hx hb dX6_cell_17 rfl (lv_at hl 4 rfl) ?_
    by_cases e6 : p3 < 0
    · replace h := q_t e6 h
      refine lv_tableOut (tgt := 139) hx hb dX6_cell_18 (tb_lo e6 rfl) (by decide) ?_
      refine lv_bipush (v := (-2)) hx hb dX6_cell_139 (by decide) ?_
      cases h
      exact E _ _ _ _ _ hW rfl rfl dX6_cell_141
    · replace h := q_f e6 h
      by_cases e7 : 6 < p3
      · replace h := q_t e7 h
        refine lv_tableOut (tgt := 139) hx hb dX6_cell_18 (tb_hi e7 rfl) (by decide) ?_
        refine lv_bipush (v := (-2)) hx hb dX6_cell_139 (by decide) ?_
        cases h
        exact E _ _ _ _ _ hW rfl rfl dX6_cell_141
      · replace h := q_f e7 h
        by_cases e8 : p3 = 0
        · replace h := q_t e8 h
          have tb := tb_in e8 (lo := 0) (hi := 6) (offs := #[42, 49, 59, 49, 88, 103, 103]) (off := 42) (by decide)
          refine lv_tableIn (tgt := 60) hx hb dX6_cell_18 tb.1 tb.2.1 tb.2.2 (by decide) ?_
          refine lv_aload_n hx hb dX6_cell_60 rfl (lv_at hl 1 rfl) ?_
          refine lv_iload_n hx hb dX6_cell_61 rfl (lv_at hl 2 rfl) ?_
          refine lv_iload_n hx hb dX6_cell_62 rfl (lv_at hl 3 rfl) ?_
          obtain ⟨t9, h10, h⟩ := q_b h
          refine r_cVi C hW (nA := 2) (As := [.int p1, .int p2]) (rest := []) (c_X6_wayAt l g A b x p1 p2 _ h10) gX6_cell_X6_wayAt rfl ⟨rfl, wo_X6_wayAt⟩ (rmk hR rfl rfl) rfl rfl rfl rfl hl.1 (Nat.le_of_ble_eq_true rfl) rz dX6_cell_63 (n := 7) (is := [0, 1, 2, 3, 4, 5, 6]) (rs := []) (bs' := [[(A b, .inr (6, [.ref (A (b + 1)), .ref (A (b + 2)), .int x.2.2.1, .ref (A (b + 3)), .int x.2.2.2.2.1, .ref (A (b + 4)), .int x.2.2.2.2.2.2.1, .ref (A (b + 5)), .ref (A (b + 6)), .int x.2.2.2.2.2.2.2.2.2.1, .int x.2.2.2.2.2.2.2.2.2.2.1, .int x.2.2.2.2.2.2.2.2.2.2.2]))], [(A (b + 1), .inl (gI g, 268, .inl x.1))], [(A (b + 2), .inl (gI g, 1340, .inl x.2.1))], [(A (b + 3), .inl (gI g, 268, .inl x.2.2.2.1))], [(A (b + 4), .inl (gC g, 70, .inl x.2.2.2.2.2.1))], [(A (b + 5), .inl (gI g, 3, .inl x.2.2.2.2.2.2.2.1))], [(A (b + 6), .inl (gI g, 144, .inl x.2.2.2.2.2.2.2.2.1))]]) rfl rfl pm_39 rfl rfl rfl (fun H locs hW => ?_)
          cases h
          exact E _ _ _ _ _ hW rfl rfl dX6_cell_66
        · replace h := q_f e8 h
          by_cases e11 : p3 = 1
          · replace h := q_t e11 h
            have tb := tb_in e11 (lo := 0) (hi := 6) (offs := #[42, 49, 59, 49, 88, 103, 103]) (off := 49) (by decide)
            refine lv_tableIn (tgt := 67) hx hb dX6_cell_18 tb.1 tb.2.1 tb.2.2 (by decide) ?_
            refine lv_aload_n hx hb dX6_cell_67 rfl (lv_at hl 1 rfl) ?_
            refine r_get C hW (K := RX6) (T := TX6) (N := 12) (v := .ref (A (b + 1))) 0 0 0 rfl rfl rfl inX6_cell_X6 (by decide) (List.mem_of_getElem? (i := 1) rfl) rfl rfl dX6_cell_68 ?_
            refine lv_iload hx hb dX6_cell_71 (lv_at hl 0 rfl) ?_
            refine lv_iload_n hx hb dX6_cell_73 rfl (lv_at hl 4 rfl) ?_
            refine lv_iadd hx hb dX6_cell_74 ?_
            obtain ⟨g12, h⟩ := q_g h
            refine r_iald C hW 1 0 rfl rfl g12 dX6_cell_75 ?_
            cases h
            exact E _ _ _ _ _ hW rfl rfl dX6_cell_76
          · replace h := q_f e11 h
            by_cases e13 : p3 = 2
            · replace h := q_t e13 h
              have tb := tb_in e13 (lo := 0) (hi := 6) (offs := #[42, 49, 59, 49, 88, 103, 103]) (off := 59) (by decide)
              refine lv_tableIn (tgt := 77) hx hb dX6_cell_18 tb.1 tb.2.1 tb.2.2 (by decide) ?_
              refine lv_aload_n hx hb dX6_cell_77 rfl (lv_at hl 1 rfl) ?_
              refine r_get C hW (K := RX6) (T := TX6) (N := 12) (v := .ref (A (b + 1))) 0 0 0 rfl rfl rfl inX6_cell_X6 (by decide) (List.mem_of_getElem? (i := 1) rfl) rfl rfl dX6_cell_78 ?_
              refine lv_iload hx hb dX6_cell_81 (lv_at hl 0 rfl) ?_
              refine lv_iconst (v := 2) hx hb dX6_cell_83 (by decide) ?_
              refine lv_iadd hx hb dX6_cell_84 ?_
              obtain ⟨g14, h⟩ := q_g h
              refine r_iald C hW 1 0 rfl rfl g14 dX6_cell_85 ?_
              refine lv_if_ne (tgt := 94) hx hb dX6_cell_86 (by decide) (fun e15 => ?_) (fun e15 => ?_)
              · replace h := q_f e15 h
                refine lv_aload_n hx hb dX6_cell_94 rfl (lv_at hl 1 rfl) ?_
                refine r_get C hW (K := RX6) (T := TX6) (N := 12) (v := .ref (A (b + 1))) 0 0 0 rfl rfl rfl inX6_cell_X6 (by decide) (List.mem_of_getElem? (i := 1) rfl) rfl rfl dX6_cell_95 ?_
                refine lv_iload hx hb dX6_cell_98 (lv_at hl 0 rfl) ?_
                refine lv_iconst (v := 2) hx hb dX6_cell_100 (by decide) ?_
                refine lv_iadd hx hb dX6_cell_101 ?_
                obtain ⟨g16, h⟩ := q_g h
                refine r_iald C hW 1 0 rfl rfl g16 dX6_cell_102 ?_
                refine lv_iconst (v := 1) hx hb dX6_cell_103 (by decide) ?_
                refine lv_isub hx hb dX6_cell_104 ?_
                cases h
                exact E _ _ _ _ _ hW rfl rfl dX6_cell_105
              · replace h := q_t e15 h
                refine lv_bipush (v := (-6)) hx hb dX6_cell_89 (by decide) ?_
                refine lv_goto (tgt := 105) hx hb dX6_cell_91 (by decide) ?_
                cases h
                exact E _ _ _ _ _ hW rfl rfl dX6_cell_105
            · replace h := q_f e13 h
              by_cases e17 : p3 = 3
              · replace h := q_t e17 h
                have tb := tb_in e17 (lo := 0) (hi := 6) (offs := #[42, 49, 59, 49, 88, 103, 103]) (off := 49) (by decide)
                refine lv_tableIn (tgt := 67) hx hb dX6_cell_18 tb.1 tb.2.1 tb.2.2 (by decide) ?_
                refine lv_aload_n hx hb dX6_cell_67 rfl (lv_at hl 1 rfl) ?_
                refine r_get C hW (K := RX6) (T := TX6) (N := 12) (v := .ref (A (b + 1))) 0 0 0 rfl rfl rfl inX6_cell_X6 (by decide) (List.mem_of_getElem? (i := 1) rfl) rfl rfl dX6_cell_68 ?_
                refine lv_iload hx hb dX6_cell_71 (lv_at hl 0 rfl) ?_
                refine lv_iload_n hx hb dX6_cell_73 rfl (lv_at hl 4 rfl) ?_
                refine lv_iadd hx hb dX6_cell_74 ?_
                obtain ⟨g18, h⟩ := q_g h
                refine r_iald C hW 1 0 rfl rfl g18 dX6_cell_75 ?_
                cases h
                exact E _ _ _ _ _ hW rfl rfl dX6_cell_76
              · replace h := q_f e17 h
                by_cases e19 : p3 = 4
                · replace h := q_t e19 h
                  have tb := tb_in e19 (lo := 0) (hi := 6) (offs := #[42, 49, 59, 49, 88, 103, 103]) (off := 88) (by decide)
                  refine lv_tableIn (tgt := 106) hx hb dX6_cell_18 tb.1 tb.2.1 tb.2.2 (by decide) ?_
                  refine lv_aload_n hx hb dX6_cell_106 rfl (lv_at hl 1 rfl) ?_
                  refine lv_iload_n hx hb dX6_cell_107 rfl (lv_at hl 2 rfl) ?_
                  refine lv_iload_n hx hb dX6_cell_108 rfl (lv_at hl 3 rfl) ?_
                  obtain ⟨t20, h21, h⟩ := q_b h
                  refine r_cVi C hW (nA := 2) (As := [.int p1, .int p2]) (rest := []) (c_X6_isRead l g A b x p1 p2 _ h21) gX6_cell_X6_isRead rfl ⟨rfl, wo_X6_isRead⟩ (rmk hR rfl rfl) rfl rfl rfl rfl hl.1 (Nat.le_of_ble_eq_true rfl) rz dX6_cell_109 (n := 7) (is := [0, 1, 2, 3, 4, 5, 6]) (rs := []) (bs' := [[(A b, .inr (6, [.ref (A (b + 1)), .ref (A (b + 2)), .int x.2.2.1, .ref (A (b + 3)), .int x.2.2.2.2.1, .ref (A (b + 4)), .int x.2.2.2.2.2.2.1, .ref (A (b + 5)), .ref (A (b + 6)), .int x.2.2.2.2.2.2.2.2.2.1, .int x.2.2.2.2.2.2.2.2.2.2.1, .int x.2.2.2.2.2.2.2.2.2.2.2]))], [(A (b + 1), .inl (gI g, 268, .inl x.1))], [(A (b + 2), .inl (gI g, 1340, .inl x.2.1))], [(A (b + 3), .inl (gI g, 268, .inl x.2.2.2.1))], [(A (b + 4), .inl (gC g, 70, .inl x.2.2.2.2.2.1))], [(A (b + 5), .inl (gI g, 3, .inl x.2.2.2.2.2.2.2.1))], [(A (b + 6), .inl (gI g, 144, .inl x.2.2.2.2.2.2.2.2.1))]]) rfl rfl pm_39 rfl rfl rfl (fun H locs hW => ?_)
                  refine lv_if_eq (tgt := 119) hx hb dX6_cell_112 (by decide) (fun e22 => ?_) (fun e22 => ?_)
                  · replace h := q_t e22 h
                    refine lv_iconst (v := 0) hx hb dX6_cell_119 (by decide) ?_
                    cases h
                    exact E _ _ _ _ _ hW rfl rfl dX6_cell_120
                  · replace h := q_f e22 h
                    refine lv_iconst (v := 1) hx hb dX6_cell_115 (by decide) ?_
                    refine lv_goto (tgt := 120) hx hb dX6_cell_116 (by decide) ?_
                    cases h
                    exact E _ _ _ _ _ hW rfl rfl dX6_cell_120
                · replace h := q_f e19 h
                  by_cases e23 : p3 = 5
                  · replace h := q_t e23 h
                    have tb := tb_in e23 (lo := 0) (hi := 6) (offs := #[42, 49, 59, 49, 88, 103, 103]) (off := 103) (by decide)
                    refine lv_tableIn (tgt := 121) hx hb dX6_cell_18 tb.1 tb.2.1 tb.2.2 (by decide) ?_
                    refine lv_aload_n hx hb dX6_cell_121 rfl (lv_at hl 1 rfl) ?_
                    refine lv_iload_n hx hb dX6_cell_122 rfl (lv_at hl 2 rfl) ?_
                    refine lv_iload_n hx hb dX6_cell_123 rfl (lv_at hl 3 rfl) ?_
                    refine lv_iload_n hx hb dX6_cell_124 rfl (lv_at hl 4 rfl) ?_
                    refine lv_iconst (v := 5) hx hb dX6_cell_125 (by decide) ?_
                    refine lv_isub hx hb dX6_cell_126 ?_
                    obtain ⟨t24, h25, h⟩ := q_b h
                    refine r_cVi C hW (nA := 3) (As := [.int p1, .int p2, .int (p3 - 5)]) (rest := []) (c_X6_isFree l g A b x p1 p2 (p3 - 5) _ h25) gX6_cell_X6_isFree rfl ⟨rfl, wo_X6_isFree⟩ (rmk hR rfl rfl) rfl rfl rfl rfl hl.1 (Nat.le_of_ble_eq_true rfl) rz dX6_cell_127 (n := 7) (is := [0, 1, 2, 3, 4, 5, 6]) (rs := []) (bs' := [[(A b, .inr (6, [.ref (A (b + 1)), .ref (A (b + 2)), .int x.2.2.1, .ref (A (b + 3)), .int x.2.2.2.2.1, .ref (A (b + 4)), .int x.2.2.2.2.2.2.1, .ref (A (b + 5)), .ref (A (b + 6)), .int x.2.2.2.2.2.2.2.2.2.1, .int x.2.2.2.2.2.2.2.2.2.2.1, .int x.2.2.2.2.2.2.2.2.2.2.2]))], [(A (b + 1), .inl (gI g, 268, .inl x.1))], [(A (b + 2), .inl (gI g, 1340, .inl x.2.1))], [(A (b + 3), .inl (gI g, 268, .inl x.2.2.2.1))], [(A (b + 4), .inl (gC g, 70, .inl x.2.2.2.2.2.1))], [(A (b + 5), .inl (gI g, 3, .inl x.2.2.2.2.2.2.2.1))], [(A (b + 6), .inl (gI g, 144, .inl x.2.2.2.2.2.2.2.2.1))]]) rfl rfl pm_39 rfl rfl rfl (fun H locs hW => ?_)
                    refine lv_if_eq (tgt := 137) hx hb dX6_cell_130 (by decide) (fun e26 => ?_) (fun e26 => ?_)
                    · replace h := q_t e26 h
                      refine lv_iconst (v := 0) hx hb dX6_cell_137 (by decide) ?_
                      cases h
                      exact E _ _ _ _ _ hW rfl rfl dX6_cell_138
                    · replace h := q_f e26 h
                      refine lv_iconst (v := 1) hx hb dX6_cell_133 (by decide) ?_
                      refine lv_goto (tgt := 138) hx hb dX6_cell_134 (by decide) ?_
                      cases h
                      exact E _ _ _ _ _ hW rfl rfl dX6_cell_138
                  · replace h := q_f e23 h
                    by_cases e27 : p3 = 6
                    · replace h := q_t e27 h
                      have tb := tb_in e27 (lo := 0) (hi := 6) (offs := #[42, 49, 59, 49, 88, 103, 103]) (off := 103) (by decide)
                      refine lv_tableIn (tgt := 121) hx hb dX6_cell_18 tb.1 tb.2.1 tb.2.2 (by decide) ?_
                      refine lv_aload_n hx hb dX6_cell_121 rfl (lv_at hl 1 rfl) ?_
                      refine lv_iload_n hx hb dX6_cell_122 rfl (lv_at hl 2 rfl) ?_
                      refine lv_iload_n hx hb dX6_cell_123 rfl (lv_at hl 3 rfl) ?_
                      refine lv_iload_n hx hb dX6_cell_124 rfl (lv_at hl 4 rfl) ?_
                      refine lv_iconst (v := 5) hx hb dX6_cell_125 (by decide) ?_
                      refine lv_isub hx hb dX6_cell_126 ?_
                      obtain ⟨t28, h29, h⟩ := q_b h
                      refine r_cVi C hW (nA := 3) (As := [.int p1, .int p2, .int (p3 - 5)]) (rest := []) (c_X6_isFree l g A b x p1 p2 (p3 - 5) _ h29) gX6_cell_X6_isFree rfl ⟨rfl, wo_X6_isFree⟩ (rmk hR rfl rfl) rfl rfl rfl rfl hl.1 (Nat.le_of_ble_eq_true rfl) rz dX6_cell_127 (n := 7) (is := [0, 1, 2, 3, 4, 5, 6]) (rs := []) (bs' := [[(A b, .inr (6, [.ref (A (b + 1)), .ref (A (b + 2)), .int x.2.2.1, .ref (A (b + 3)), .int x.2.2.2.2.1, .ref (A (b + 4)), .int x.2.2.2.2.2.2.1, .ref (A (b + 5)), .ref (A (b + 6)), .int x.2.2.2.2.2.2.2.2.2.1, .int x.2.2.2.2.2.2.2.2.2.2.1, .int x.2.2.2.2.2.2.2.2.2.2.2]))], [(A (b + 1), .inl (gI g, 268, .inl x.1))], [(A (b + 2), .inl (gI g, 1340, .inl x.2.1))], [(A (b + 3), .inl (gI g, 268, .inl x.2.2.2.1))], [(A (b + 4), .inl (gC g, 70, .inl x.2.2.2.2.2.1))], [(A (b + 5), .inl (gI g, 3, .inl x.2.2.2.2.2.2.2.1))], [(A (b + 6), .inl (gI g, 144, .inl x.2.2.2.2.2.2.2.2.1))]]) rfl rfl pm_39 rfl rfl rfl (fun H locs hW => ?_)
                      refine lv_if_eq (tgt := 137) hx hb dX6_cell_130 (by decide) (fun e30 => ?_) (fun e30 => ?_)
                      · replace h := q_t e30 h
                        refine lv_iconst (v := 0) hx hb dX6_cell_137 (by decide) ?_
                        cases h
                        exact E _ _ _ _ _ hW rfl rfl dX6_cell_138
                      · replace h := q_f e30 h
                        refine lv_iconst (v := 1) hx hb dX6_cell_133 (by decide) ?_
                        refine lv_goto (tgt := 138) hx hb dX6_cell_134 (by decide) ?_
                        cases h
                        exact E _ _ _ _ _ hW rfl rfl dX6_cell_138
                    · replace h := q_f e27 h
                      cases h
  · replace h := q_t e3 h
    refine lv_iconst (v := (-1)) hx hb dX6_cell_8 (by decide) ?_
    cases h
    exact E _ _ _ _ _ hW rfl rfl dX6_cell_9
def f_X6_line (x : TX6s) (p1 : Int32) (p2 : Int32) (p3 : Int32) : Option (Int32) :=
(f_X6_isLine p1 p2).bind fun t1 =>
if t1 = 0 then (
some (-1))
else (
(f_X6_in p3 0 1).bind fun t4 =>
if t4 = 0 then (
some (-2))
else (
(f_X6_lineAt p1 p2).bind fun t7 =>
if (t7 + p3) < 0 ∨ 268 ≤ (t7 + p3).toNatClampNeg then none else
some (x.1 (t7 + p3).toNatClampNeg)))
theorem wo_X6_line : wordsOk yX6_line 3 := by decide +kernel
theorem inX6_line_X6 : ∀ w ∈ wsX60, w ∈ wsX6_line := fun _ h => List.mem_cons_of_mem _ (List.mem_append_right _ h)
set_option maxHeartbeats 4000000 in
set_option maxRecDepth 100000 in
theorem c_X6_line (l : Launch) (g : GG) (A : Nat → Nat) (b : Nat) (x : TX6s) (p1 : Int32) (p2 : Int32) (p3 : Int32) (r : Int32) (h : f_X6_line x p1 p2 p3 = some r) : CI l yX6_line wsX6_line 2 43 g [.ref (A b), .int p1, .int p2, .int p3] (wX6 g A b x) r (wX6 g A b x) := by
  refine CI.mk (own := RX6) (by decide) rfl rfl (Nat.le_of_ble_eq_true rfl) ?_
  intro p e R s m args below meth c Z Q C E hR H hW ls hl
  have hx := C.1.1
  have hb := C.1.2.1
  have hown := C.1.2.2.2.1
  replace hW : WdG g Z s.heap H [] [[(A b, .inr (6, [.ref (A (b + 1)), .ref (A (b + 2)), .int x.2.2.1, .ref (A (b + 3)), .int x.2.2.2.2.1, .ref (A (b + 4)), .int x.2.2.2.2.2.2.1, .ref (A (b + 5)), .ref (A (b + 6)), .int x.2.2.2.2.2.2.2.2.2.1, .int x.2.2.2.2.2.2.2.2.2.2.1, .int x.2.2.2.2.2.2.2.2.2.2.2]))], [(A (b + 1), .inl (gI g, 268, .inl x.1))], [(A (b + 2), .inl (gI g, 1340, .inl x.2.1))], [(A (b + 3), .inl (gI g, 268, .inl x.2.2.2.1))], [(A (b + 4), .inl (gC g, 70, .inl x.2.2.2.2.2.1))], [(A (b + 5), .inl (gI g, 3, .inl x.2.2.2.2.2.2.2.1))], [(A (b + 6), .inl (gI g, 144, .inl x.2.2.2.2.2.2.2.2.1))]] := hW.re rfl
  replace hl : lv_has ls 4 [(0, .ref (A b)), (1, .int p1), (2, .int p2), (3, .int p3)] := hl
  unfold f_X6_line at h
  refine lv_iload_n hx hb dX6_line_0 rfl (lv_at hl 1 rfl) ?_
  refine lv_iload_n hx hb dX6_line_1 rfl (lv_at hl 2 rfl) ?_
  obtain ⟨t1, h2, h⟩ := q_b h
  refine r_cSi C hW (nA := 2) (As := [.int p1, .int p2]) (rest := []) (c_X6_isLine l g p1 p2 _ h2) gX6_line_X6_isLine rfl wo_X6_isLine (rmk hR rfl rfl) rfl rfl hl.1 (Nat.le_of_ble_eq_true rfl) rz dX6_line_2 (n := 7) (is := []) (rs := [0, 1, 2, 3, 4, 5, 6]) (bs' := [[(A b, .inr (6, [.ref (A (b + 1)), .ref (A (b + 2)), .int x.2.2.1, .ref (A (b + 3)), .int x.2.2.2.2.1, .ref (A (b + 4)), .int x.2.2.2.2.2.2.1, .ref (A (b + 5)), .ref (A (b + 6)), .int x.2.2.2.2.2.2.2.2.2.1, .int x.2.2.2.2.2.2.2.2.2.2.1, .int x.2.2.2.2.2.2.2.2.2.2.2]))], [(A (b + 1), .inl (gI g, 268, .inl x.1))], [(A (b + 2), .inl (gI g, 1340, .inl x.2.1))], [(A (b + 3), .inl (gI g, 268, .inl x.2.2.2.1))], [(A (b + 4), .inl (gC g, 70, .inl x.2.2.2.2.2.1))], [(A (b + 5), .inl (gI g, 3, .inl x.2.2.2.2.2.2.2.1))], [(A (b + 6), .inl (gI g, 144, .inl x.2.2.2.2.2.2.2.2.1))]]) rfl rfl pm_38 rfl rfl rfl (fun H locs hW => ?_)
  refine lv_if_ne (tgt := 10) hx hb dX6_line_5 (by decide) (fun e3 => ?_) (fun e3 => ?_)
  · replace h := q_f e3 h
    refine lv_iload_n hx hb dX6_line_10 rfl (lv_at hl 3 rfl) ?_
    refine lv_iconst (v := 0) hx hb dX6_line_11 (by decide) ?_
    refine lv_iconst (v := 1) hx hb dX6_line_12 (by decide) ?_
    obtain ⟨t4, h5, h⟩ := q_b h
    refine r_cSi C hW (nA := 3) (As := [.int p3, .int 0, .int 1]) (rest := []) (c_X6_in l g p3 0 1 _ h5) gX6_line_X6_in rfl wo_X6_in (rmk hR rfl rfl) rfl rfl hl.1 (Nat.le_of_ble_eq_true rfl) rz dX6_line_13 (n := 7) (is := []) (rs := [0, 1, 2, 3, 4, 5, 6]) (bs' := [[(A b, .inr (6, [.ref (A (b + 1)), .ref (A (b + 2)), .int x.2.2.1, .ref (A (b + 3)), .int x.2.2.2.2.1, .ref (A (b + 4)), .int x.2.2.2.2.2.2.1, .ref (A (b + 5)), .ref (A (b + 6)), .int x.2.2.2.2.2.2.2.2.2.1, .int x.2.2.2.2.2.2.2.2.2.2.1, .int x.2.2.2.2.2.2.2.2.2.2.2]))], [(A (b + 1), .inl (gI g, 268, .inl x.1))], [(A (b + 2), .inl (gI g, 1340, .inl x.2.1))], [(A (b + 3), .inl (gI g, 268, .inl x.2.2.2.1))], [(A (b + 4), .inl (gC g, 70, .inl x.2.2.2.2.2.1))], [(A (b + 5), .inl (gI g, 3, .inl x.2.2.2.2.2.2.2.1))], [(A (b + 6), .inl (gI g, 144, .inl x.2.2.2.2.2.2.2.2.1))]]) rfl rfl pm_38 rfl rfl rfl (fun H locs hW => ?_)
    refine lv_if_eq (tgt := 34) hx hb dX6_line_16 (by decide) (fun e6 => ?_) (fun e6 => ?_)
    · replace h := q_t e6 h
      refine lv_bipush (v := (-2)) hx hb dX6_line_34 (by decide) ?_
      cases h
      exact E _ _ _ _ _ hW rfl rfl dX6_line_36
    · replace h := q_f e6 h
      refine lv_aload_n hx hb dX6_line_19 rfl (lv_at hl 0 rfl) ?_
      refine r_get C hW (K := RX6) (T := TX6) (N := 12) (v := .ref (A (b + 1))) 0 0 0 rfl rfl rfl inX6_line_X6 (by decide) (List.mem_of_getElem? (i := 1) rfl) rfl rfl dX6_line_20 ?_
      refine lv_iload_n hx hb dX6_line_23 rfl (lv_at hl 1 rfl) ?_
      refine lv_iload_n hx hb dX6_line_24 rfl (lv_at hl 2 rfl) ?_
      obtain ⟨t7, h8, h⟩ := q_b h
      refine r_cSi C hW (nA := 2) (As := [.int p1, .int p2]) (rest := [.ref (A (b + 1))]) (c_X6_lineAt l g p1 p2 _ h8) gX6_line_X6_lineAt rfl wo_X6_lineAt (rmk hR rfl rfl) rfl rfl hl.1 (Nat.le_of_ble_eq_true rfl) rz dX6_line_25 (n := 7) (is := []) (rs := [0, 1, 2, 3, 4, 5, 6]) (bs' := [[(A b, .inr (6, [.ref (A (b + 1)), .ref (A (b + 2)), .int x.2.2.1, .ref (A (b + 3)), .int x.2.2.2.2.1, .ref (A (b + 4)), .int x.2.2.2.2.2.2.1, .ref (A (b + 5)), .ref (A (b + 6)), .int x.2.2.2.2.2.2.2.2.2.1, .int x.2.2.2.2.2.2.2.2.2.2.1, .int x.2.2.2.2.2.2.2.2.2.2.2]))], [(A (b + 1), .inl (gI g, 268, .inl x.1))], [(A (b + 2), .inl (gI g, 1340, .inl x.2.1))], [(A (b + 3), .inl (gI g, 268, .inl x.2.2.2.1))], [(A (b + 4), .inl (gC g, 70, .inl x.2.2.2.2.2.1))], [(A (b + 5), .inl (gI g, 3, .inl x.2.2.2.2.2.2.2.1))], [(A (b + 6), .inl (gI g, 144, .inl x.2.2.2.2.2.2.2.2.1))]]) rfl rfl pm_38 rfl rfl rfl (fun H locs hW => ?_)
      refine lv_iload_n hx hb dX6_line_28 rfl (lv_at hl 3 rfl) ?_
      refine lv_iadd hx hb dX6_line_29 ?_
      obtain ⟨g9, h⟩ := q_g h
      refine r_iald C hW 1 0 rfl rfl g9 dX6_line_30 ?_
      refine lv_goto (tgt := 36) hx hb dX6_line_31 (by decide) ?_
      cases h
      exact E _ _ _ _ _ hW rfl rfl dX6_line_36
  · replace h := q_t e3 h
    refine lv_iconst (v := (-1)) hx hb dX6_line_8 (by decide) ?_
    cases h
    exact E _ _ _ _ _ hW rfl rfl dX6_line_9
def f_X6_canChange_j14 (x : TX6s) (p1 : Int32) (p2 : Int32) (p3 : Int32) (p4 : Int32) (w14 : Int32) : Option (Int32) :=
(f_X6_lineAt w14 p3).bind fun t1 =>
if t1 < 0 ∨ 268 ≤ (t1).toNatClampNeg then none else
(f_X6_isFree x p2 p3 p4).bind fun t4 =>
if t4 = 0 then (
some 0)
else (
if (x.1 (t1).toNatClampNeg) = 0 then (
some 1)
else (
if (x.1 (t1).toNatClampNeg) = 2 then (
some 1)
else (
if (x.1 (t1).toNatClampNeg) = 3 then (
if p2 ≤ p1 then (
some 0)
else (
some 1))
else (
some 0))))
def f_X6_canChange (x : TX6s) (p1 : Int32) (p2 : Int32) (p3 : Int32) (p4 : Int32) : Option (Int32) :=
if p2 ≤ p1 then (
f_X6_canChange_j14 x p1 p2 p3 p4 p2)
else (
f_X6_canChange_j14 x p1 p2 p3 p4 p1)
theorem wo_X6_canChange : wordsOk yX6_canChange 4 := by decide +kernel
theorem inX6_canChange_X6 : ∀ w ∈ wsX60, w ∈ wsX6_canChange := fun _ h => List.mem_cons_of_mem _ (List.mem_append_right _ h)
set_option maxHeartbeats 4000000 in
set_option maxRecDepth 100000 in
theorem c_X6_canChange (l : Launch) (g : GG) (A : Nat → Nat) (b : Nat) (x : TX6s) (p1 : Int32) (p2 : Int32) (p3 : Int32) (p4 : Int32) (r : Int32) (h : f_X6_canChange x p1 p2 p3 p4 = some r) : CI l yX6_canChange wsX6_canChange 3 67 g [.ref (A b), .int p1, .int p2, .int p3, .int p4] (wX6 g A b x) r (wX6 g A b x) := by
  refine CI.mk (own := RX6) (by decide) rfl rfl (Nat.le_of_ble_eq_true rfl) ?_
  intro p e R s m args below meth c Z Q C E hR H hW ls hl
  have hx := C.1.1
  have hb := C.1.2.1
  have hown := C.1.2.2.2.1
  replace hW : WdG g Z s.heap H [] [[(A b, .inr (6, [.ref (A (b + 1)), .ref (A (b + 2)), .int x.2.2.1, .ref (A (b + 3)), .int x.2.2.2.2.1, .ref (A (b + 4)), .int x.2.2.2.2.2.2.1, .ref (A (b + 5)), .ref (A (b + 6)), .int x.2.2.2.2.2.2.2.2.2.1, .int x.2.2.2.2.2.2.2.2.2.2.1, .int x.2.2.2.2.2.2.2.2.2.2.2]))], [(A (b + 1), .inl (gI g, 268, .inl x.1))], [(A (b + 2), .inl (gI g, 1340, .inl x.2.1))], [(A (b + 3), .inl (gI g, 268, .inl x.2.2.2.1))], [(A (b + 4), .inl (gC g, 70, .inl x.2.2.2.2.2.1))], [(A (b + 5), .inl (gI g, 3, .inl x.2.2.2.2.2.2.2.1))], [(A (b + 6), .inl (gI g, 144, .inl x.2.2.2.2.2.2.2.2.1))]] := hW.re rfl
  replace hl : lv_has ls 6 [(0, .ref (A b)), (1, .int p1), (2, .int p2), (3, .int p3), (4, .int p4)] := hl
  unfold f_X6_canChange at h
  refine lv_aload_n hx hb dX6_canChange_0 rfl (lv_at hl 0 rfl) ?_
  refine r_get C hW (K := RX6) (T := TX6) (N := 12) (v := .ref (A (b + 1))) 0 0 0 rfl rfl rfl inX6_canChange_X6 (by decide) (List.mem_of_getElem? (i := 1) rfl) rfl rfl dX6_canChange_1 ?_
  refine lv_iload_n hx hb dX6_canChange_4 rfl (lv_at hl 1 rfl) ?_
  refine lv_iload_n hx hb dX6_canChange_5 rfl (lv_at hl 2 rfl) ?_
  have J14 : ∀ (w14 : Int32), f_X6_canChange_j14 x p1 p2 p3 p4 w14 = some r → ∀ (H : Heap) (locs : List Loc), WdG g Z s.heap H locs [[(A b, .inr (6, [.ref (A (b + 1)), .ref (A (b + 2)), .int x.2.2.1, .ref (A (b + 3)), .int x.2.2.2.2.1, .ref (A (b + 4)), .int x.2.2.2.2.2.2.1, .ref (A (b + 5)), .ref (A (b + 6)), .int x.2.2.2.2.2.2.2.2.2.1, .int x.2.2.2.2.2.2.2.2.2.2.1, .int x.2.2.2.2.2.2.2.2.2.2.2]))], [(A (b + 1), .inl (gI g, 268, .inl x.1))], [(A (b + 2), .inl (gI g, 1340, .inl x.2.1))], [(A (b + 3), .inl (gI g, 268, .inl x.2.2.2.1))], [(A (b + 4), .inl (gC g, 70, .inl x.2.2.2.2.2.1))], [(A (b + 5), .inl (gI g, 3, .inl x.2.2.2.2.2.2.2.1))], [(A (b + 6), .inl (gI g, 144, .inl x.2.2.2.2.2.2.2.2.1))]] → ∀ ls : Array Slot, lv_has ls 6 [(0, .ref (A b)), (1, .int p1), (2, .int p2), (3, .int p3), (4, .int p4)] → W p l e R s m args below meth c H locs 0 0 Q (F0 m 14 ls [.int w14, .ref (A (b + 1))]) := by
    intro w14 h H locs hW ls hl
    unfold f_X6_canChange_j14 at h
    refine lv_iload_n hx hb dX6_canChange_14 rfl (lv_at hl 3 rfl) ?_
    obtain ⟨t1, h2, h⟩ := q_b h
    refine r_cSi C hW (nA := 2) (As := [.int w14, .int p3]) (rest := [.ref (A (b + 1))]) (c_X6_lineAt l g w14 p3 _ h2) gX6_canChange_X6_lineAt rfl wo_X6_lineAt (rmk hR rfl rfl) rfl rfl hl.1 (Nat.le_of_ble_eq_true rfl) rz dX6_canChange_15 (n := 7) (is := []) (rs := [0, 1, 2, 3, 4, 5, 6]) (bs' := [[(A b, .inr (6, [.ref (A (b + 1)), .ref (A (b + 2)), .int x.2.2.1, .ref (A (b + 3)), .int x.2.2.2.2.1, .ref (A (b + 4)), .int x.2.2.2.2.2.2.1, .ref (A (b + 5)), .ref (A (b + 6)), .int x.2.2.2.2.2.2.2.2.2.1, .int x.2.2.2.2.2.2.2.2.2.2.1, .int x.2.2.2.2.2.2.2.2.2.2.2]))], [(A (b + 1), .inl (gI g, 268, .inl x.1))], [(A (b + 2), .inl (gI g, 1340, .inl x.2.1))], [(A (b + 3), .inl (gI g, 268, .inl x.2.2.2.1))], [(A (b + 4), .inl (gC g, 70, .inl x.2.2.2.2.2.1))], [(A (b + 5), .inl (gI g, 3, .inl x.2.2.2.2.2.2.2.1))], [(A (b + 6), .inl (gI g, 144, .inl x.2.2.2.2.2.2.2.2.1))]]) rfl rfl pm_38 rfl rfl rfl (fun H locs hW => ?_)
    obtain ⟨g3, h⟩ := q_g h
    refine r_iald C hW 1 0 rfl rfl g3 dX6_canChange_18 ?_
    refine lv_istore (lv' := [(5, .int (x.1 (t1).toNatClampNeg)), (0, .ref (A b)), (1, .int p1), (2, .int p2), (3, .int p3), (4, .int p4)]) hx hb dX6_canChange_19 hl (by decide) rfl (fun ls hl => ?_)
    refine lv_aload_n hx hb dX6_canChange_21 rfl (lv_at hl 1 rfl) ?_
    refine lv_iload_n hx hb dX6_canChange_22 rfl (lv_at hl 3 rfl) ?_
    refine lv_iload_n hx hb dX6_canChange_23 rfl (lv_at hl 4 rfl) ?_
    refine lv_iload hx hb dX6_canChange_24 (lv_at hl 5 rfl) ?_
    obtain ⟨t4, h5, h⟩ := q_b h
    refine r_cVi C hW (nA := 3) (As := [.int p2, .int p3, .int p4]) (rest := []) (c_X6_isFree l g A b x p2 p3 p4 _ h5) gX6_canChange_X6_isFree rfl ⟨rfl, wo_X6_isFree⟩ (rmk hR rfl rfl) rfl rfl rfl rfl hl.1 (Nat.le_of_ble_eq_true rfl) rz dX6_canChange_26 (n := 7) (is := [0, 1, 2, 3, 4, 5, 6]) (rs := []) (bs' := [[(A b, .inr (6, [.ref (A (b + 1)), .ref (A (b + 2)), .int x.2.2.1, .ref (A (b + 3)), .int x.2.2.2.2.1, .ref (A (b + 4)), .int x.2.2.2.2.2.2.1, .ref (A (b + 5)), .ref (A (b + 6)), .int x.2.2.2.2.2.2.2.2.2.1, .int x.2.2.2.2.2.2.2.2.2.2.1, .int x.2.2.2.2.2.2.2.2.2.2.2]))], [(A (b + 1), .inl (gI g, 268, .inl x.1))], [(A (b + 2), .inl (gI g, 1340, .inl x.2.1))], [(A (b + 3), .inl (gI g, 268, .inl x.2.2.2.1))], [(A (b + 4), .inl (gC g, 70, .inl x.2.2.2.2.2.1))], [(A (b + 5), .inl (gI g, 3, .inl x.2.2.2.2.2.2.2.1))], [(A (b + 6), .inl (gI g, 144, .inl x.2.2.2.2.2.2.2.2.1))]]) rfl rfl pm_39 rfl rfl rfl (fun H locs hW => ?_)
    refine lv_if_eq (tgt := 58) hx hb dX6_canChange_29 (by decide) (fun e6 => ?_) (fun e6 => ?_)
    · replace h := q_t e6 h
      refine lv_iconst (v := 0) hx hb dX6_canChange_58 (by decide) ?_
      cases h
      exact E _ _ _ _ _ hW rfl rfl dX6_canChange_59
    · replace h := q_f e6 h
      refine lv_iload hx hb dX6_canChange_32 (lv_at hl 0 rfl) ?_
      refine lv_if_eq (tgt := 54) hx hb dX6_canChange_34 (by decide) (fun e7 => ?_) (fun e7 => ?_)
      · replace h := q_t e7 h
        refine lv_iconst (v := 1) hx hb dX6_canChange_54 (by decide) ?_
        refine lv_goto (tgt := 59) hx hb dX6_canChange_55 (by decide) ?_
        cases h
        exact E _ _ _ _ _ hW rfl rfl dX6_canChange_59
      · replace h := q_f e7 h
        refine lv_iload hx hb dX6_canChange_37 (lv_at hl 0 rfl) ?_
        refine lv_iconst (v := 2) hx hb dX6_canChange_39 (by decide) ?_
        refine lv_icmp_eq (tgt := 54) hx hb dX6_canChange_40 (by decide) (fun e8 => ?_) (fun e8 => ?_)
        · replace h := q_t e8 h
          refine lv_iconst (v := 1) hx hb dX6_canChange_54 (by decide) ?_
          refine lv_goto (tgt := 59) hx hb dX6_canChange_55 (by decide) ?_
          cases h
          exact E _ _ _ _ _ hW rfl rfl dX6_canChange_59
        · replace h := q_f e8 h
          refine lv_iload hx hb dX6_canChange_43 (lv_at hl 0 rfl) ?_
          refine lv_iconst (v := 3) hx hb dX6_canChange_45 (by decide) ?_
          refine lv_icmp_ne (tgt := 58) hx hb dX6_canChange_46 (by decide) (fun e9 => ?_) (fun e9 => ?_)
          · replace h := q_f e9 h
            refine lv_iconst (v := 0) hx hb dX6_canChange_58 (by decide) ?_
            cases h
            exact E _ _ _ _ _ hW rfl rfl dX6_canChange_59
          · replace h := q_t e9 h
            refine lv_iload_n hx hb dX6_canChange_49 rfl (lv_at hl 2 rfl) ?_
            refine lv_iload_n hx hb dX6_canChange_50 rfl (lv_at hl 3 rfl) ?_
            refine lv_icmp_ge (tgt := 58) hx hb dX6_canChange_51 (by decide) (fun e10 => ?_) (fun e10 => ?_)
            · replace h := q_t e10 h
              refine lv_iconst (v := 0) hx hb dX6_canChange_58 (by decide) ?_
              cases h
              exact E _ _ _ _ _ hW rfl rfl dX6_canChange_59
            · replace h := q_f e10 h
              refine lv_iconst (v := 1) hx hb dX6_canChange_54 (by decide) ?_
              refine lv_goto (tgt := 59) hx hb dX6_canChange_55 (by decide) ?_
              cases h
              exact E _ _ _ _ _ hW rfl rfl dX6_canChange_59
  refine lv_icmp_ge (tgt := 13) hx hb dX6_canChange_6 (by decide) (fun e11 => ?_) (fun e11 => ?_)
  · replace h := q_t e11 h
    refine lv_iload_n hx hb dX6_canChange_13 rfl (lv_at hl 2 rfl) ?_
    exact J14 p2 h _ _ hW _ (lv_sub hl [0, 1, 2, 3, 4] rfl)
  · replace h := q_f e11 h
    refine lv_iload_n hx hb dX6_canChange_9 rfl (lv_at hl 1 rfl) ?_
    refine lv_goto (tgt := 14) hx hb dX6_canChange_10 (by decide) ?_
    exact J14 p1 h _ _ hW _ (lv_sub hl [0, 1, 2, 3, 4] rfl)
