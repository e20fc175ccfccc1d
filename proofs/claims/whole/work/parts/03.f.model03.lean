def f_X6_signs (x : TX6s) (p1 : Int32) (p2 : Int32) : Option (Int32 × TX6s) :=
if p1 < 0 ∨ 268 ≤ (p1).toNatClampNeg then none else
if p2 = 0 then (
if (p1 + 1) < 0 ∨ 268 ≤ (p1 + 1).toNatClampNeg then none else
some (p2, ((upd (upd x.1 (p1).toNatClampNeg p2) (p1 + 1).toNatClampNeg 0), x.2.1, x.2.2.1, x.2.2.2.1, x.2.2.2.2.1, x.2.2.2.2.2.1, x.2.2.2.2.2.2.1, x.2.2.2.2.2.2.2.1, x.2.2.2.2.2.2.2.2.1, x.2.2.2.2.2.2.2.2.2.1, x.2.2.2.2.2.2.2.2.2.2.1, x.2.2.2.2.2.2.2.2.2.2.2)))
else (
if (p1 + 1) < 0 ∨ 268 ≤ (p1 + 1).toNatClampNeg then none else
some (p2, ((upd (upd x.1 (p1).toNatClampNeg p2) (p1 + 1).toNatClampNeg 100), x.2.1, x.2.2.1, x.2.2.2.1, x.2.2.2.2.1, x.2.2.2.2.2.1, x.2.2.2.2.2.2.1, x.2.2.2.2.2.2.2.1, x.2.2.2.2.2.2.2.2.1, x.2.2.2.2.2.2.2.2.2.1, x.2.2.2.2.2.2.2.2.2.2.1, x.2.2.2.2.2.2.2.2.2.2.2)))
theorem wo_X6_signs : wordsOk yX6_signs 2 := by decide +kernel
theorem inX6_signs_X6 : ∀ w ∈ wsX60, w ∈ wsX6_signs := fun _ h => List.mem_cons_of_mem _ (List.mem_append_right _ h)
set_option maxHeartbeats 4000000 in
set_option maxRecDepth 100000 in
theorem c_X6_signs (l : Launch) (g : GG) (A : Nat → Nat) (b : Nat) (x : TX6s) (p1 : Int32) (p2 : Int32) (r : Int32) (x' : TX6s) (h : f_X6_signs x p1 p2 = some (r, x')) : CI l yX6_signs wsX6_signs 0 0 g [.ref (A b), .int p1, .int p2] (wX6 g A b x) r (wX6 g A b x') := by
  refine CI.mk (own := RX6) (by decide) rfl rfl (Nat.le_of_ble_eq_true rfl) ?_
  intro p e R s m args below meth c Z Q C E hR H hW ls hl
  have hx := C.1.1
  have hb := C.1.2.1
  have hown := C.1.2.2.2.1
  replace hW : WdG g Z s.heap H [] [[(A b, .inr (6, [.ref (A (b + 1)), .ref (A (b + 2)), .int x.2.2.1, .ref (A (b + 3)), .int x.2.2.2.2.1, .ref (A (b + 4)), .int x.2.2.2.2.2.2.1, .ref (A (b + 5)), .ref (A (b + 6)), .int x.2.2.2.2.2.2.2.2.2.1, .int x.2.2.2.2.2.2.2.2.2.2.1, .int x.2.2.2.2.2.2.2.2.2.2.2]))], [(A (b + 1), .inl (gI g, 268, .inl x.1))], [(A (b + 2), .inl (gI g, 1340, .inl x.2.1))], [(A (b + 3), .inl (gI g, 268, .inl x.2.2.2.1))], [(A (b + 4), .inl (gC g, 70, .inl x.2.2.2.2.2.1))], [(A (b + 5), .inl (gI g, 3, .inl x.2.2.2.2.2.2.2.1))], [(A (b + 6), .inl (gI g, 144, .inl x.2.2.2.2.2.2.2.2.1))]] := hW.re rfl
  replace hl : lv_has ls 3 [(0, .ref (A b)), (1, .int p1), (2, .int p2)] := hl
  unfold f_X6_signs at h
  refine lv_aload_n hx hb dX6_signs_0 rfl (lv_at hl 0 rfl) ?_
  refine r_get C hW (K := RX6) (T := TX6) (N := 12) (v := .ref (A (b + 1))) 0 0 0 rfl rfl rfl inX6_signs_X6 (by decide) (List.mem_of_getElem? (i := 1) rfl) rfl rfl dX6_signs_1 ?_
  refine lv_iload_n hx hb dX6_signs_4 rfl (lv_at hl 1 rfl) ?_
  refine lv_iload_n hx hb dX6_signs_5 rfl (lv_at hl 2 rfl) ?_
  obtain ⟨g1, h⟩ := q_g h
  refine r_iast C hW (bs' := [[(A b, .inr (6, [.ref (A (b + 1)), .ref (A (b + 2)), .int x.2.2.1, .ref (A (b + 3)), .int x.2.2.2.2.1, .ref (A (b + 4)), .int x.2.2.2.2.2.2.1, .ref (A (b + 5)), .ref (A (b + 6)), .int x.2.2.2.2.2.2.2.2.2.1, .int x.2.2.2.2.2.2.2.2.2.2.1, .int x.2.2.2.2.2.2.2.2.2.2.2]))], [(A (b + 1), .inl (gI g, 268, .inl (upd x.1 (p1).toNatClampNeg p2)))], [(A (b + 2), .inl (gI g, 1340, .inl x.2.1))], [(A (b + 3), .inl (gI g, 268, .inl x.2.2.2.1))], [(A (b + 4), .inl (gC g, 70, .inl x.2.2.2.2.2.1))], [(A (b + 5), .inl (gI g, 3, .inl x.2.2.2.2.2.2.2.1))], [(A (b + 6), .inl (gI g, 144, .inl x.2.2.2.2.2.2.2.2.1))]]) 1 0 rfl rfl g1 dX6_signs_6 rfl (fun H locs hW => ?_)
  refine lv_aload_n hx hb dX6_signs_7 rfl (lv_at hl 0 rfl) ?_
  refine r_get C hW (K := RX6) (T := TX6) (N := 12) (v := .ref (A (b + 1))) 0 0 0 rfl rfl rfl inX6_signs_X6 (by decide) (List.mem_of_getElem? (i := 1) rfl) rfl rfl dX6_signs_8 ?_
  refine lv_iload_n hx hb dX6_signs_11 rfl (lv_at hl 1 rfl) ?_
  refine lv_iconst (v := 1) hx hb dX6_signs_12 (by decide) ?_
  refine lv_iadd hx hb dX6_signs_13 ?_
  refine lv_iload_n hx hb dX6_signs_14 rfl (lv_at hl 2 rfl) ?_
  refine lv_if_ne (tgt := 22) hx hb dX6_signs_15 (by decide) (fun e2 => ?_) (fun e2 => ?_)
  · replace h := q_f e2 h
    refine lv_bipush (v := 100) hx hb dX6_signs_22 (by decide) ?_
    obtain ⟨g3, h⟩ := q_g h
    refine r_iast C hW (bs' := [[(A b, .inr (6, [.ref (A (b + 1)), .ref (A (b + 2)), .int x.2.2.1, .ref (A (b + 3)), .int x.2.2.2.2.1, .ref (A (b + 4)), .int x.2.2.2.2.2.2.1, .ref (A (b + 5)), .ref (A (b + 6)), .int x.2.2.2.2.2.2.2.2.2.1, .int x.2.2.2.2.2.2.2.2.2.2.1, .int x.2.2.2.2.2.2.2.2.2.2.2]))], [(A (b + 1), .inl (gI g, 268, .inl (upd (upd x.1 (p1).toNatClampNeg p2) (p1 + 1).toNatClampNeg 100)))], [(A (b + 2), .inl (gI g, 1340, .inl x.2.1))], [(A (b + 3), .inl (gI g, 268, .inl x.2.2.2.1))], [(A (b + 4), .inl (gC g, 70, .inl x.2.2.2.2.2.1))], [(A (b + 5), .inl (gI g, 3, .inl x.2.2.2.2.2.2.2.1))], [(A (b + 6), .inl (gI g, 144, .inl x.2.2.2.2.2.2.2.2.1))]]) 1 0 rfl rfl g3 dX6_signs_24 rfl (fun H locs hW => ?_)
    refine lv_iload_n hx hb dX6_signs_25 rfl (lv_at hl 2 rfl) ?_
    cases h
    exact E _ _ _ _ _ hW rfl rfl dX6_signs_26
  · replace h := q_t e2 h
    refine lv_iconst (v := 0) hx hb dX6_signs_18 (by decide) ?_
    refine lv_goto (tgt := 24) hx hb dX6_signs_19 (by decide) ?_
    obtain ⟨g4, h⟩ := q_g h
    refine r_iast C hW (bs' := [[(A b, .inr (6, [.ref (A (b + 1)), .ref (A (b + 2)), .int x.2.2.1, .ref (A (b + 3)), .int x.2.2.2.2.1, .ref (A (b + 4)), .int x.2.2.2.2.2.2.1, .ref (A (b + 5)), .ref (A (b + 6)), .int x.2.2.2.2.2.2.2.2.2.1, .int x.2.2.2.2.2.2.2.2.2.2.1, .int x.2.2.2.2.2.2.2.2.2.2.2]))], [(A (b + 1), .inl (gI g, 268, .inl (upd (upd x.1 (p1).toNatClampNeg p2) (p1 + 1).toNatClampNeg 0)))], [(A (b + 2), .inl (gI g, 1340, .inl x.2.1))], [(A (b + 3), .inl (gI g, 268, .inl x.2.2.2.1))], [(A (b + 4), .inl (gC g, 70, .inl x.2.2.2.2.2.1))], [(A (b + 5), .inl (gI g, 3, .inl x.2.2.2.2.2.2.2.1))], [(A (b + 6), .inl (gI g, 144, .inl x.2.2.2.2.2.2.2.2.1))]]) 1 0 rfl rfl g4 dX6_signs_24 rfl (fun H locs hW => ?_)
    refine lv_iload_n hx hb dX6_signs_25 rfl (lv_at hl 2 rfl) ?_
    cases h
    exact E _ _ _ _ _ hW rfl rfl dX6_signs_26
def f_X6_arrow (x : TX6s) (p1 : Int32) (p2 : Int32) (p3 : Int32) : Option (Int32 × TX6s) :=
(f_X6_whyNotArrow x p1 p2 p3).bind fun t1 =>
if 0 ≤ t1 then (
(f_X6_record x).bind fun t4 =>
(f_X6_cellAt p1 p2).bind fun t6 =>
(f_X6_signs t4 t6 (p3 + 1)).bind fun t8 =>
(f_X6_cellSigns t8.2 0).bind fun t10 =>
some (t10, t8.2))
else (
some (t1, x))
theorem wo_X6_arrow : wordsOk yX6_arrow 3 := by decide +kernel
set_option maxHeartbeats 4000000 in
set_option maxRecDepth 100000 in
theorem c_X6_arrow (l : Launch) (g : GG) (A : Nat → Nat) (b : Nat) (x : TX6s) (p1 : Int32) (p2 : Int32) (p3 : Int32) (r : Int32) (x' : TX6s) (h : f_X6_arrow x p1 p2 p3 = some (r, x')) : CI l yX6_arrow wsX6_arrow 5 119 g [.ref (A b), .int p1, .int p2, .int p3] (wX6 g A b x) r (wX6 g A b x') := by
  refine CI.mk (own := RX6) (by decide) rfl rfl (Nat.le_of_ble_eq_true rfl) ?_
  intro p e R s m args below meth c Z Q C E hR H hW ls hl
  have hx := C.1.1
  have hb := C.1.2.1
  have hown := C.1.2.2.2.1
  replace hW : WdG g Z s.heap H [] [[(A b, .inr (6, [.ref (A (b + 1)), .ref (A (b + 2)), .int x.2.2.1, .ref (A (b + 3)), .int x.2.2.2.2.1, .ref (A (b + 4)), .int x.2.2.2.2.2.2.1, .ref (A (b + 5)), .ref (A (b + 6)), .int x.2.2.2.2.2.2.2.2.2.1, .int x.2.2.2.2.2.2.2.2.2.2.1, .int x.2.2.2.2.2.2.2.2.2.2.2]))], [(A (b + 1), .inl (gI g, 268, .inl x.1))], [(A (b + 2), .inl (gI g, 1340, .inl x.2.1))], [(A (b + 3), .inl (gI g, 268, .inl x.2.2.2.1))], [(A (b + 4), .inl (gC g, 70, .inl x.2.2.2.2.2.1))], [(A (b + 5), .inl (gI g, 3, .inl x.2.2.2.2.2.2.2.1))], [(A (b + 6), .inl (gI g, 144, .inl x.2.2.2.2.2.2.2.2.1))]] := hW.re rfl
  replace hl : lv_has ls 5 [(0, .ref (A b)), (1, .int p1), (2, .int p2), (3, .int p3)] := hl
  unfold f_X6_arrow at h
  refine lv_aload_n hx hb dX6_arrow_0 rfl (lv_at hl 0 rfl) ?_
  refine lv_iload_n hx hb dX6_arrow_1 rfl (lv_at hl 1 rfl) ?_
  refine lv_iload_n hx hb dX6_arrow_2 rfl (lv_at hl 2 rfl) ?_
  refine lv_iload_n hx hb dX6_arrow_3 rfl (lv_at hl 3 rfl) ?_
  obtain ⟨t1, h2, h⟩ := q_b h
  refine r_cVi C hW (nA := 3) (As := [.int p1, .int p2, .int p3]) (rest := []) (c_X6_whyNotArrow l g A b x p1 p2 p3 _ h2) gX6_arrow_X6_whyNotArrow rfl ⟨rfl, wo_X6_whyNotArrow⟩ (rmk hR rfl rfl) rfl rfl rfl rfl hl.1 (Nat.le_of_ble_eq_true rfl) rz dX6_arrow_4 (n := 7) (is := [0, 1, 2, 3, 4, 5, 6]) (rs := []) (bs' := [[(A b, .inr (6, [.ref (A (b + 1)), .ref (A (b + 2)), .int x.2.2.1, .ref (A (b + 3)), .int x.2.2.2.2.1, .ref (A (b + 4)), .int x.2.2.2.2.2.2.1, .ref (A (b + 5)), .ref (A (b + 6)), .int x.2.2.2.2.2.2.2.2.2.1, .int x.2.2.2.2.2.2.2.2.2.2.1, .int x.2.2.2.2.2.2.2.2.2.2.2]))], [(A (b + 1), .inl (gI g, 268, .inl x.1))], [(A (b + 2), .inl (gI g, 1340, .inl x.2.1))], [(A (b + 3), .inl (gI g, 268, .inl x.2.2.2.1))], [(A (b + 4), .inl (gC g, 70, .inl x.2.2.2.2.2.1))], [(A (b + 5), .inl (gI g, 3, .inl x.2.2.2.2.2.2.2.1))], [(A (b + 6), .inl (gI g, 144, .inl x.2.2.2.2.2.2.2.2.1))]]) rfl rfl pm_39 rfl rfl rfl (fun H locs hW => ?_)
  refine lv_istore (lv' := [(4, .int t1), (0, .ref (A b)), (1, .int p1), (2, .int p2), (3, .int p3)]) hx hb dX6_arrow_7 hl (by decide) rfl (fun ls hl => ?_)
  refine lv_iload hx hb dX6_arrow_9 (lv_at hl 0 rfl) ?_
  refine lv_if_ge (tgt := 17) hx hb dX6_arrow_11 (by decide) (fun e3 => ?_) (fun e3 => ?_)
  · replace h := q_t e3 h
    refine lv_aload_n hx hb dX6_arrow_17 rfl (lv_at hl 1 rfl) ?_
    obtain ⟨t4, h5, h⟩ := q_b h
    refine r_cVv C hW (nA := 0) (As := []) (rest := []) (c_X6_record l g A b x _ h5) gX6_arrow_X6_record rfl ⟨rfl, wo_X6_record⟩ (rmk hR rfl rfl) rfl rfl rfl rfl hl.1 (Nat.le_of_ble_eq_true rfl) rz dX6_arrow_18 (n := 7) (is := [0, 1, 2, 3, 4, 5, 6]) (rs := []) (bs' := [[(A b, .inr (6, [.ref (A (b + 1)), .ref (A (b + 2)), .int t4.2.2.1, .ref (A (b + 3)), .int t4.2.2.2.2.1, .ref (A (b + 4)), .int t4.2.2.2.2.2.2.1, .ref (A (b + 5)), .ref (A (b + 6)), .int t4.2.2.2.2.2.2.2.2.2.1, .int t4.2.2.2.2.2.2.2.2.2.2.1, .int t4.2.2.2.2.2.2.2.2.2.2.2]))], [(A (b + 1), .inl (gI g, 268, .inl t4.1))], [(A (b + 2), .inl (gI g, 1340, .inl t4.2.1))], [(A (b + 3), .inl (gI g, 268, .inl t4.2.2.2.1))], [(A (b + 4), .inl (gC g, 70, .inl t4.2.2.2.2.2.1))], [(A (b + 5), .inl (gI g, 3, .inl t4.2.2.2.2.2.2.2.1))], [(A (b + 6), .inl (gI g, 144, .inl t4.2.2.2.2.2.2.2.2.1))]]) rfl rfl pm_39 rfl rfl rfl (fun H locs hW => ?_)
    refine lv_aload_n hx hb dX6_arrow_21 rfl (lv_at hl 1 rfl) ?_
    refine lv_iload_n hx hb dX6_arrow_22 rfl (lv_at hl 2 rfl) ?_
    refine lv_iload_n hx hb dX6_arrow_23 rfl (lv_at hl 3 rfl) ?_
    obtain ⟨t6, h7, h⟩ := q_b h
    refine r_cSi C hW (nA := 2) (As := [.int p1, .int p2]) (rest := [.ref (A b)]) (c_X6_cellAt l g p1 p2 _ h7) gX6_arrow_X6_cellAt rfl wo_X6_cellAt (rmk hR rfl rfl) rfl rfl hl.1 (Nat.le_of_ble_eq_true rfl) rz dX6_arrow_24 (n := 7) (is := []) (rs := [0, 1, 2, 3, 4, 5, 6]) (bs' := [[(A b, .inr (6, [.ref (A (b + 1)), .ref (A (b + 2)), .int t4.2.2.1, .ref (A (b + 3)), .int t4.2.2.2.2.1, .ref (A (b + 4)), .int t4.2.2.2.2.2.2.1, .ref (A (b + 5)), .ref (A (b + 6)), .int t4.2.2.2.2.2.2.2.2.2.1, .int t4.2.2.2.2.2.2.2.2.2.2.1, .int t4.2.2.2.2.2.2.2.2.2.2.2]))], [(A (b + 1), .inl (gI g, 268, .inl t4.1))], [(A (b + 2), .inl (gI g, 1340, .inl t4.2.1))], [(A (b + 3), .inl (gI g, 268, .inl t4.2.2.2.1))], [(A (b + 4), .inl (gC g, 70, .inl t4.2.2.2.2.2.1))], [(A (b + 5), .inl (gI g, 3, .inl t4.2.2.2.2.2.2.2.1))], [(A (b + 6), .inl (gI g, 144, .inl t4.2.2.2.2.2.2.2.2.1))]]) rfl rfl pm_38 rfl rfl rfl (fun H locs hW => ?_)
    refine lv_iload_n hx hb dX6_arrow_27 rfl (lv_at hl 4 rfl) ?_
    refine lv_iconst (v := 1) hx hb dX6_arrow_28 (by decide) ?_
    refine lv_iadd hx hb dX6_arrow_29 ?_
    obtain ⟨t8, h9, h⟩ := q_b h
    refine r_cVi C hW (nA := 2) (As := [.int t6, .int (p3 + 1)]) (rest := []) (c_X6_signs l g A b t4 t6 (p3 + 1) _ _ h9) gX6_arrow_X6_signs rfl ⟨rfl, wo_X6_signs⟩ (rmk hR rfl rfl) rfl rfl rfl rfl hl.1 (Nat.le_of_ble_eq_true rfl) rz dX6_arrow_30 (n := 7) (is := [0, 1, 2, 3, 4, 5, 6]) (rs := []) (bs' := [[(A b, .inr (6, [.ref (A (b + 1)), .ref (A (b + 2)), .int t8.2.2.2.1, .ref (A (b + 3)), .int t8.2.2.2.2.2.1, .ref (A (b + 4)), .int t8.2.2.2.2.2.2.2.1, .ref (A (b + 5)), .ref (A (b + 6)), .int t8.2.2.2.2.2.2.2.2.2.2.1, .int t8.2.2.2.2.2.2.2.2.2.2.2.1, .int t8.2.2.2.2.2.2.2.2.2.2.2.2]))], [(A (b + 1), .inl (gI g, 268, .inl t8.2.1))], [(A (b + 2), .inl (gI g, 1340, .inl t8.2.2.1))], [(A (b + 3), .inl (gI g, 268, .inl t8.2.2.2.2.1))], [(A (b + 4), .inl (gC g, 70, .inl t8.2.2.2.2.2.2.1))], [(A (b + 5), .inl (gI g, 3, .inl t8.2.2.2.2.2.2.2.2.1))], [(A (b + 6), .inl (gI g, 144, .inl t8.2.2.2.2.2.2.2.2.2.1))]]) rfl rfl pm_39 rfl rfl rfl (fun H locs hW => ?_)
    refine lv_pop hx hb dX6_arrow_33 rfl ?_
    refine lv_aload_n hx hb dX6_arrow_34 rfl (lv_at hl 1 rfl) ?_
    refine lv_iconst (v := 0) hx hb dX6_arrow_35 (by decide) ?_
    obtain ⟨t10, h11, h⟩ := q_b h
    refine r_cVi C hW (nA := 1) (As := [.int 0]) (rest := []) (c_X6_cellSigns l g A b t8.2 0 _ h11) gX6_arrow_X6_cellSigns rfl ⟨rfl, wo_X6_cellSigns⟩ (rmk hR rfl rfl) rfl rfl rfl rfl hl.1 (Nat.le_of_ble_eq_true rfl) rz dX6_arrow_36 (n := 7) (is := [0, 1, 2, 3, 4, 5, 6]) (rs := []) (bs' := [[(A b, .inr (6, [.ref (A (b + 1)), .ref (A (b + 2)), .int t8.2.2.2.1, .ref (A (b + 3)), .int t8.2.2.2.2.2.1, .ref (A (b + 4)), .int t8.2.2.2.2.2.2.2.1, .ref (A (b + 5)), .ref (A (b + 6)), .int t8.2.2.2.2.2.2.2.2.2.2.1, .int t8.2.2.2.2.2.2.2.2.2.2.2.1, .int t8.2.2.2.2.2.2.2.2.2.2.2.2]))], [(A (b + 1), .inl (gI g, 268, .inl t8.2.1))], [(A (b + 2), .inl (gI g, 1340, .inl t8.2.2.1))], [(A (b + 3), .inl (gI g, 268, .inl t8.2.2.2.2.1))], [(A (b + 4), .inl (gC g, 70, .inl t8.2.2.2.2.2.2.1))], [(A (b + 5), .inl (gI g, 3, .inl t8.2.2.2.2.2.2.2.2.1))], [(A (b + 6), .inl (gI g, 144, .inl t8.2.2.2.2.2.2.2.2.2.1))]]) rfl rfl pm_39 rfl rfl rfl (fun H locs hW => ?_)
    cases h
    exact E _ _ _ _ _ hW rfl rfl dX6_arrow_39
  · replace h := q_f e3 h
    refine lv_iload hx hb dX6_arrow_14 (lv_at hl 0 rfl) ?_
    cases h
    exact E _ _ _ _ _ hW rfl rfl dX6_arrow_16
def f_X6_whyNotWord (p1 : Int32) (p2 : Int32) (p3 : Int32) : Option (Int32) :=
(f_X6_isCell p1 p2).bind fun t1 =>
if t1 = 0 then (
some (-1))
else (
(f_X6_in p3 0 3).bind fun t4 =>
if t4 = 0 then (
some (-2))
else (
some 0))
theorem wo_X6_whyNotWord : wordsOk yX6_whyNotWord 3 := by decide +kernel
set_option maxHeartbeats 4000000 in
set_option maxRecDepth 100000 in
theorem c_X6_whyNotWord (l : Launch) (g : GG) (p1 : Int32) (p2 : Int32) (p3 : Int32) (r : Int32) (h : f_X6_whyNotWord p1 p2 p3 = some r) : CI l yX6_whyNotWord wsX6_whyNotWord 2 43 g [.int p1, .int p2, .int p3] ([]) r ([]) := by
  refine CI.mk (own := RX6) (by decide) rfl rfl (Nat.le_of_ble_eq_true rfl) ?_
  intro p e R s m args below meth c Z Q C E hR H hW ls hl
  have hx := C.1.1
  have hb := C.1.2.1
  have hown := C.1.2.2.2.1
  replace hW : WdG g Z s.heap H [] [] := hW.re rfl
  replace hl : lv_has ls 3 [(0, .int p1), (1, .int p2), (2, .int p3)] := hl
  unfold f_X6_whyNotWord at h
  refine lv_iload_n hx hb dX6_whyNotWord_0 rfl (lv_at hl 0 rfl) ?_
  refine lv_iload_n hx hb dX6_whyNotWord_1 rfl (lv_at hl 1 rfl) ?_
  obtain ⟨t1, h2, h⟩ := q_b h
  refine r_cSi C hW (nA := 2) (As := [.int p1, .int p2]) (rest := []) (c_X6_isCell l g p1 p2 _ h2) gX6_whyNotWord_X6_isCell rfl wo_X6_isCell (rmk hR rfl rfl) rfl rfl hl.1 (Nat.le_of_ble_eq_true rfl) rz dX6_whyNotWord_2 (n := 0) (is := []) (rs := []) (bs' := []) rfl rfl pm_11 rfl rfl rfl (fun H locs hW => ?_)
  refine lv_if_ne (tgt := 12) hx hb dX6_whyNotWord_5 (by decide) (fun e3 => ?_) (fun e3 => ?_)
  · replace h := q_f e3 h
    refine lv_iload_n hx hb dX6_whyNotWord_12 rfl (lv_at hl 2 rfl) ?_
    refine lv_iconst (v := 0) hx hb dX6_whyNotWord_13 (by decide) ?_
    refine lv_iconst (v := 3) hx hb dX6_whyNotWord_14 (by decide) ?_
    obtain ⟨t4, h5, h⟩ := q_b h
    refine r_cSi C hW (nA := 3) (As := [.int p3, .int 0, .int 3]) (rest := []) (c_X6_in l g p3 0 3 _ h5) gX6_whyNotWord_X6_in rfl wo_X6_in (rmk hR rfl rfl) rfl rfl hl.1 (Nat.le_of_ble_eq_true rfl) rz dX6_whyNotWord_15 (n := 0) (is := []) (rs := []) (bs' := []) rfl rfl pm_11 rfl rfl rfl (fun H locs hW => ?_)
    refine lv_if_eq (tgt := 25) hx hb dX6_whyNotWord_18 (by decide) (fun e6 => ?_) (fun e6 => ?_)
    · replace h := q_t e6 h
      refine lv_bipush (v := (-2)) hx hb dX6_whyNotWord_25 (by decide) ?_
      cases h
      exact E _ _ _ _ _ hW rfl rfl dX6_whyNotWord_27
    · replace h := q_f e6 h
      refine lv_iconst (v := 0) hx hb dX6_whyNotWord_21 (by decide) ?_
      refine lv_goto (tgt := 27) hx hb dX6_whyNotWord_22 (by decide) ?_
      cases h
      exact E _ _ _ _ _ hW rfl rfl dX6_whyNotWord_27
  · replace h := q_t e3 h
    refine lv_iconst (v := (-1)) hx hb dX6_whyNotWord_8 (by decide) ?_
    refine lv_goto (tgt := 27) hx hb dX6_whyNotWord_9 (by decide) ?_
    cases h
    exact E _ _ _ _ _ hW rfl rfl dX6_whyNotWord_27
def f_X6_word (x : TX6s) (p1 : Int32) (p2 : Int32) (p3 : Int32) : Option (Int32 × TX6s) :=
(f_X6_whyNotWord p1 p2 p3).bind fun t1 =>
if 0 ≤ t1 then (
(f_X6_record x).bind fun t4 =>
(f_X6_cellAt p1 p2).bind fun t6 =>
(f_X6_signs t4 (t6 + 2) (p3 + 1)).bind fun t8 =>
(f_X6_cellSigns t8.2 2).bind fun t10 =>
some (t10, t8.2))
else (
some (t1, x))
theorem wo_X6_word : wordsOk yX6_word 3 := by decide +kernel
set_option maxHeartbeats 4000000 in
set_option maxRecDepth 100000 in
theorem c_X6_word (l : Launch) (g : GG) (A : Nat → Nat) (b : Nat) (x : TX6s) (p1 : Int32) (p2 : Int32) (p3 : Int32) (r : Int32) (x' : TX6s) (h : f_X6_word x p1 p2 p3 = some (r, x')) : CI l yX6_word wsX6_word 3 65 g [.ref (A b), .int p1, .int p2, .int p3] (wX6 g A b x) r (wX6 g A b x') := by
  refine CI.mk (own := RX6) (by decide) rfl rfl (Nat.le_of_ble_eq_true rfl) ?_
  intro p e R s m args below meth c Z Q C E hR H hW ls hl
  have hx := C.1.1
  have hb := C.1.2.1
  have hown := C.1.2.2.2.1
  replace hW : WdG g Z s.heap H [] [[(A b, .inr (6, [.ref (A (b + 1)), .ref (A (b + 2)), .int x.2.2.1, .ref (A (b + 3)), .int x.2.2.2.2.1, .ref (A (b + 4)), .int x.2.2.2.2.2.2.1, .ref (A (b + 5)), .ref (A (b + 6)), .int x.2.2.2.2.2.2.2.2.2.1, .int x.2.2.2.2.2.2.2.2.2.2.1, .int x.2.2.2.2.2.2.2.2.2.2.2]))], [(A (b + 1), .inl (gI g, 268, .inl x.1))], [(A (b + 2), .inl (gI g, 1340, .inl x.2.1))], [(A (b + 3), .inl (gI g, 268, .inl x.2.2.2.1))], [(A (b + 4), .inl (gC g, 70, .inl x.2.2.2.2.2.1))], [(A (b + 5), .inl (gI g, 3, .inl x.2.2.2.2.2.2.2.1))], [(A (b + 6), .inl (gI g, 144, .inl x.2.2.2.2.2.2.2.2.1))]] := hW.re rfl
  replace hl : lv_has ls 5 [(0, .ref (A b)), (1, .int p1), (2, .int p2), (3, .int p3)] := hl
  unfold f_X6_word at h
  refine lv_iload_n hx hb dX6_word_0 rfl (lv_at hl 1 rfl) ?_
  refine lv_iload_n hx hb dX6_word_1 rfl (lv_at hl 2 rfl) ?_
  refine lv_iload_n hx hb dX6_word_2 rfl (lv_at hl 3 rfl) ?_
  obtain ⟨t1, h2, h⟩ := q_b h
  refine r_cSi C hW (nA := 3) (As := [.int p1, .int p2, .int p3]) (rest := []) (c_X6_whyNotWord l g p1 p2 p3 _ h2) gX6_word_X6_whyNotWord rfl wo_X6_whyNotWord (rmk hR rfl rfl) rfl rfl hl.1 (Nat.le_of_ble_eq_true rfl) rz dX6_word_3 (n := 7) (is := []) (rs := [0, 1, 2, 3, 4, 5, 6]) (bs' := [[(A b, .inr (6, [.ref (A (b + 1)), .ref (A (b + 2)), .int x.2.2.1, .ref (A (b + 3)), .int x.2.2.2.2.1, .ref (A (b + 4)), .int x.2.2.2.2.2.2.1, .ref (A (b + 5)), .ref (A (b + 6)), .int x.2.2.2.2.2.2.2.2.2.1, .int x.2.2.2.2.2.2.2.2.2.2.1, .int x.2.2.2.2.2.2.2.2.2.2.2]))], [(A (b + 1), .inl (gI g, 268, .inl x.1))], [(A (b + 2), .inl (gI g, 1340, .inl x.2.1))], [(A (b + 3), .inl (gI g, 268, .inl x.2.2.2.1))], [(A (b + 4), .inl (gC g, 70, .inl x.2.2.2.2.2.1))], [(A (b + 5), .inl (gI g, 3, .inl x.2.2.2.2.2.2.2.1))], [(A (b + 6), .inl (gI g, 144, .inl x.2.2.2.2.2.2.2.2.1))]]) rfl rfl pm_38 rfl rfl rfl (fun H locs hW => ?_)
  refine lv_istore (lv' := [(4, .int t1), (0, .ref (A b)), (1, .int p1), (2, .int p2), (3, .int p3)]) hx hb dX6_word_6 hl (by decide) rfl (fun ls hl => ?_)
  refine lv_iload hx hb dX6_word_8 (lv_at hl 0 rfl) ?_
  refine lv_if_ge (tgt := 16) hx hb dX6_word_10 (by decide) (fun e3 => ?_) (fun e3 => ?_)
  · replace h := q_t e3 h
    refine lv_aload_n hx hb dX6_word_16 rfl (lv_at hl 1 rfl) ?_
    obtain ⟨t4, h5, h⟩ := q_b h
    refine r_cVv C hW (nA := 0) (As := []) (rest := []) (c_X6_record l g A b x _ h5) gX6_word_X6_record rfl ⟨rfl, wo_X6_record⟩ (rmk hR rfl rfl) rfl rfl rfl rfl hl.1 (Nat.le_of_ble_eq_true rfl) rz dX6_word_17 (n := 7) (is := [0, 1, 2, 3, 4, 5, 6]) (rs := []) (bs' := [[(A b, .inr (6, [.ref (A (b + 1)), .ref (A (b + 2)), .int t4.2.2.1, .ref (A (b + 3)), .int t4.2.2.2.2.1, .ref (A (b + 4)), .int t4.2.2.2.2.2.2.1, .ref (A (b + 5)), .ref (A (b + 6)), .int t4.2.2.2.2.2.2.2.2.2.1, .int t4.2.2.2.2.2.2.2.2.2.2.1, .int t4.2.2.2.2.2.2.2.2.2.2.2]))], [(A (b + 1), .inl (gI g, 268, .inl t4.1))], [(A (b + 2), .inl (gI g, 1340, .inl t4.2.1))], [(A (b + 3), .inl (gI g, 268, .inl t4.2.2.2.1))], [(A (b + 4), .inl (gC g, 70, .inl t4.2.2.2.2.2.1))], [(A (b + 5), .inl (gI g, 3, .inl t4.2.2.2.2.2.2.2.1))], [(A (b + 6), .inl (gI g, 144, .inl t4.2.2.2.2.2.2.2.2.1))]]) rfl rfl pm_39 rfl rfl rfl (fun H locs hW => ?_)
    refine lv_aload_n hx hb dX6_word_20 rfl (lv_at hl 1 rfl) ?_
    refine lv_iload_n hx hb dX6_word_21 rfl (lv_at hl 2 rfl) ?_
    refine lv_iload_n hx hb dX6_word_22 rfl (lv_at hl 3 rfl) ?_
    obtain ⟨t6, h7, h⟩ := q_b h
    refine r_cSi C hW (nA := 2) (As := [.int p1, .int p2]) (rest := [.ref (A b)]) (c_X6_cellAt l g p1 p2 _ h7) gX6_word_X6_cellAt rfl wo_X6_cellAt (rmk hR rfl rfl) rfl rfl hl.1 (Nat.le_of_ble_eq_true rfl) rz dX6_word_23 (n := 7) (is := []) (rs := [0, 1, 2, 3, 4, 5, 6]) (bs' := [[(A b, .inr (6, [.ref (A (b + 1)), .ref (A (b + 2)), .int t4.2.2.1, .ref (A (b + 3)), .int t4.2.2.2.2.1, .ref (A (b + 4)), .int t4.2.2.2.2.2.2.1, .ref (A (b + 5)), .ref (A (b + 6)), .int t4.2.2.2.2.2.2.2.2.2.1, .int t4.2.2.2.2.2.2.2.2.2.2.1, .int t4.2.2.2.2.2.2.2.2.2.2.2]))], [(A (b + 1), .inl (gI g, 268, .inl t4.1))], [(A (b + 2), .inl (gI g, 1340, .inl t4.2.1))], [(A (b + 3), .inl (gI g, 268, .inl t4.2.2.2.1))], [(A (b + 4), .inl (gC g, 70, .inl t4.2.2.2.2.2.1))], [(A (b + 5), .inl (gI g, 3, .inl t4.2.2.2.2.2.2.2.1))], [(A (b + 6), .inl (gI g, 144, .inl t4.2.2.2.2.2.2.2.2.1))]]) rfl rfl pm_38 rfl rfl rfl (fun H locs hW => ?_)
    refine lv_iconst (v := 2) hx hb dX6_word_26 (by decide) ?_
    refine lv_iadd hx hb dX6_word_27 ?_
    refine lv_iload_n hx hb dX6_word_28 rfl (lv_at hl 4 rfl) ?_
    refine lv_iconst (v := 1) hx hb dX6_word_29 (by decide) ?_
    refine lv_iadd hx hb dX6_word_30 ?_
    obtain ⟨t8, h9, h⟩ := q_b h
    refine r_cVi C hW (nA := 2) (As := [.int (t6 + 2), .int (p3 + 1)]) (rest := []) (c_X6_signs l g A b t4 (t6 + 2) (p3 + 1) _ _ h9) gX6_word_X6_signs rfl ⟨rfl, wo_X6_signs⟩ (rmk hR rfl rfl) rfl rfl rfl rfl hl.1 (Nat.le_of_ble_eq_true rfl) rz dX6_word_31 (n := 7) (is := [0, 1, 2, 3, 4, 5, 6]) (rs := []) (bs' := [[(A b, .inr (6, [.ref (A (b + 1)), .ref (A (b + 2)), .int t8.2.2.2.1, .ref (A (b + 3)), .int t8.2.2.2.2.2.1, .ref (A (b + 4)), .int t8.2.2.2.2.2.2.2.1, .ref (A (b + 5)), .ref (A (b + 6)), .int t8.2.2.2.2.2.2.2.2.2.2.1, .int t8.2.2.2.2.2.2.2.2.2.2.2.1, .int t8.2.2.2.2.2.2.2.2.2.2.2.2]))], [(A (b + 1), .inl (gI g, 268, .inl t8.2.1))], [(A (b + 2), .inl (gI g, 1340, .inl t8.2.2.1))], [(A (b + 3), .inl (gI g, 268, .inl t8.2.2.2.2.1))], [(A (b + 4), .inl (gC g, 70, .inl t8.2.2.2.2.2.2.1))], [(A (b + 5), .inl (gI g, 3, .inl t8.2.2.2.2.2.2.2.2.1))], [(A (b + 6), .inl (gI g, 144, .inl t8.2.2.2.2.2.2.2.2.2.1))]]) rfl rfl pm_39 rfl rfl rfl (fun H locs hW => ?_)
    refine lv_pop hx hb dX6_word_34 rfl ?_
    refine lv_aload_n hx hb dX6_word_35 rfl (lv_at hl 1 rfl) ?_
    refine lv_iconst (v := 2) hx hb dX6_word_36 (by decide) ?_
    obtain ⟨t10, h11, h⟩ := q_b h
    refine r_cVi C hW (nA := 1) (As := [.int 2]) (rest := []) (c_X6_cellSigns l g A b t8.2 2 _ h11) gX6_word_X6_cellSigns rfl ⟨rfl, wo_X6_cellSigns⟩ (rmk hR rfl rfl) rfl rfl rfl rfl hl.1 (Nat.le_of_ble_eq_true rfl) rz dX6_word_37 (n := 7) (is := [0, 1, 2, 3, 4, 5, 6]) (rs := []) (bs' := [[(A b, .inr (6, [.ref (A (b + 1)), .ref (A (b + 2)), .int t8.2.2.2.1, .ref (A (b + 3)), .int t8.2.2.2.2.2.1, .ref (A (b + 4)), .int t8.2.2.2.2.2.2.2.1, .ref (A (b + 5)), .ref (A (b + 6)), .int t8.2.2.2.2.2.2.2.2.2.2.1, .int t8.2.2.2.2.2.2.2.2.2.2.2.1, .int t8.2.2.2.2.2.2.2.2.2.2.2.2]))], [(A (b + 1), .inl (gI g, 268, .inl t8.2.1))], [(A (b + 2), .inl (gI g, 1340, .inl t8.2.2.1))], [(A (b + 3), .inl (gI g, 268, .inl t8.2.2.2.2.1))], [(A (b + 4), .inl (gC g, 70, .inl t8.2.2.2.2.2.2.1))], [(A (b + 5), .inl (gI g, 3, .inl t8.2.2.2.2.2.2.2.2.1))], [(A (b + 6), .inl (gI g, 144, .inl t8.2.2.2.2.2.2.2.2.2.1))]]) rfl rfl pm_39 rfl rfl rfl (fun H locs hW => ?_)
    cases h
    exact E _ _ _ _ _ hW rfl rfl dX6_word_40
  · replace h := q_f e3 h
    refine lv_iload hx hb dX6_word_13 (lv_at hl 0 rfl) ?_
    cases h
    exact E _ _ _ _ _ hW rfl rfl dX6_word_15
def f_X6_whyNotDash (p1 : Int32) (p2 : Int32) (p3 : Int32) : Option (Int32) :=
(f_X6_isLine p1 p2).bind fun t1 =>
if t1 = 0 then (
some (-1))
else (
(f_X6_in p3 0 3).bind fun t4 =>
if t4 = 0 then (
some (-2))
else (
some 0))
theorem wo_X6_whyNotDash : wordsOk yX6_whyNotDash 3 := by decide +kernel
set_option maxHeartbeats 4000000 in
set_option maxRecDepth 100000 in
theorem c_X6_whyNotDash (l : Launch) (g : GG) (p1 : Int32) (p2 : Int32) (p3 : Int32) (r : Int32) (h : f_X6_whyNotDash p1 p2 p3 = some r) : CI l yX6_whyNotDash wsX6_whyNotDash 2 43 g [.int p1, .int p2, .int p3] ([]) r ([]) := by
  refine CI.mk (own := RX6) (by decide) rfl rfl (Nat.le_of_ble_eq_true rfl) ?_
  intro p e R s m args below meth c Z Q C E hR H hW ls hl
  have hx := C.1.1
  have hb := C.1.2.1
  have hown := C.1.2.2.2.1
  replace hW : WdG g Z s.heap H [] [] := hW.re rfl
  replace hl : lv_has ls 3 [(0, .int p1), (1, .int p2), (2, .int p3)] := hl
  unfold f_X6_whyNotDash at h
  refine lv_iload_n hx hb dX6_whyNotDash_0 rfl (lv_at hl 0 rfl) ?_
  refine lv_iload_n hx hb dX6_whyNotDash_1 rfl (lv_at hl 1 rfl) ?_
  obtain ⟨t1, h2, h⟩ := q_b h
  refine r_cSi C hW (nA := 2) (As := [.int p1, .int p2]) (rest := []) (c_X6_isLine l g p1 p2 _ h2) gX6_whyNotDash_X6_isLine rfl wo_X6_isLine (rmk hR rfl rfl) rfl rfl hl.1 (Nat.le_of_ble_eq_true rfl) rz dX6_whyNotDash_2 (n := 0) (is := []) (rs := []) (bs' := []) rfl rfl pm_11 rfl rfl rfl (fun H locs hW => ?_)
  refine lv_if_ne (tgt := 12) hx hb dX6_whyNotDash_5 (by decide) (fun e3 => ?_) (fun e3 => ?_)
  · replace h := q_f e3 h
    refine lv_iload_n hx hb dX6_whyNotDash_12 rfl (lv_at hl 2 rfl) ?_
    refine lv_iconst (v := 0) hx hb dX6_whyNotDash_13 (by decide) ?_
    refine lv_iconst (v := 3) hx hb dX6_whyNotDash_14 (by decide) ?_
    obtain ⟨t4, h5, h⟩ := q_b h
    refine r_cSi C hW (nA := 3) (As := [.int p3, .int 0, .int 3]) (rest := []) (c_X6_in l g p3 0 3 _ h5) gX6_whyNotDash_X6_in rfl wo_X6_in (rmk hR rfl rfl) rfl rfl hl.1 (Nat.le_of_ble_eq_true rfl) rz dX6_whyNotDash_15 (n := 0) (is := []) (rs := []) (bs' := []) rfl rfl pm_11 rfl rfl rfl (fun H locs hW => ?_)
    refine lv_if_eq (tgt := 25) hx hb dX6_whyNotDash_18 (by decide) (fun e6 => ?_) (fun e6 => ?_)
    · replace h := q_t e6 h
      refine lv_bipush (v := (-2)) hx hb dX6_whyNotDash_25 (by decide) ?_
      cases h
      exact E _ _ _ _ _ hW rfl rfl dX6_whyNotDash_27
    · replace h := q_f e6 h
      refine lv_iconst (v := 0) hx hb dX6_whyNotDash_21 (by decide) ?_
      refine lv_goto (tgt := 27) hx hb dX6_whyNotDash_22 (by decide) ?_
      cases h
      exact E _ _ _ _ _ hW rfl rfl dX6_whyNotDash_27
  · replace h := q_t e3 h
    refine lv_iconst (v := (-1)) hx hb dX6_whyNotDash_8 (by decide) ?_
    refine lv_goto (tgt := 27) hx hb dX6_whyNotDash_9 (by decide) ?_
    cases h
    exact E _ _ _ _ _ hW rfl rfl dX6_whyNotDash_27
def f_X6_dash (x : TX6s) (p1 : Int32) (p2 : Int32) (p3 : Int32) : Option (Int32 × TX6s) :=
(f_X6_whyNotDash p1 p2 p3).bind fun t1 =>
if 0 ≤ t1 then (
(f_X6_record x).bind fun t4 =>
(f_X6_lineAt p1 p2).bind fun t6 =>
if t6 < 0 ∨ 268 ≤ (t6).toNatClampNeg then none else
(f_X6_lineAt p1 p2).bind fun t9 =>
(f_X6_signs t4 t9 p3).bind fun t11 =>
some ((t4.1 (t6).toNatClampNeg), t11.2))
else (
some (t1, x))
theorem wo_X6_dash : wordsOk yX6_dash 3 := by decide +kernel
theorem inX6_dash_X6 : ∀ w ∈ wsX60, w ∈ wsX6_dash := fun _ h => List.mem_cons_of_mem _ (List.mem_append_right _ h)
set_option maxHeartbeats 4000000 in
set_option maxRecDepth 100000 in
theorem c_X6_dash (l : Launch) (g : GG) (A : Nat → Nat) (b : Nat) (x : TX6s) (p1 : Int32) (p2 : Int32) (p3 : Int32) (r : Int32) (x' : TX6s) (h : f_X6_dash x p1 p2 p3 = some (r, x')) : CI l yX6_dash wsX6_dash 3 65 g [.ref (A b), .int p1, .int p2, .int p3] (wX6 g A b x) r (wX6 g A b x') := by
  refine CI.mk (own := RX6) (by decide) rfl rfl (Nat.le_of_ble_eq_true rfl) ?_
  intro p e R s m args below meth c Z Q C E hR H hW ls hl
  have hx := C.1.1
  have hb := C.1.2.1
  have hown := C.1.2.2.2.1
  replace hW : WdG g Z s.heap H [] [[(A b, .inr (6, [.ref (A (b + 1)), .ref (A (b + 2)), .int x.2.2.1, .ref (A (b + 3)), .int x.2.2.2.2.1, .ref (A (b + 4)), .int x.2.2.2.2.2.2.1, .ref (A (b + 5)), .ref (A (b + 6)), .int x.2.2.2.2.2.2.2.2.2.1, .int x.2.2.2.2.2.2.2.2.2.2.1, .int x.2.2.2.2.2.2.2.2.2.2.2]))], [(A (b + 1), .inl (gI g, 268, .inl x.1))], [(A (b + 2), .inl (gI g, 1340, .inl x.2.1))], [(A (b + 3), .inl (gI g, 268, .inl x.2.2.2.1))], [(A (b + 4), .inl (gC g, 70, .inl x.2.2.2.2.2.1))], [(A (b + 5), .inl (gI g, 3, .inl x.2.2.2.2.2.2.2.1))], [(A (b + 6), .inl (gI g, 144, .inl x.2.2.2.2.2.2.2.2.1))]] := hW.re rfl
  replace hl : lv_has ls 6 [(0, .ref (A b)), (1, .int p1), (2, .int p2), (3, .int p3)] := hl
  unfold f_X6_dash at h
  refine lv_iload_n hx hb dX6_dash_0 rfl (lv_at hl 1 rfl) ?_
  refine lv_iload_n hx hb dX6_dash_1 rfl (lv_at hl 2 rfl) ?_
  refine lv_iload_n hx hb dX6_dash_2 rfl (lv_at hl 3 rfl) ?_
  obtain ⟨t1, h2, h⟩ := q_b h
  refine r_cSi C hW (nA := 3) (As := [.int p1, .int p2, .int p3]) (rest := []) (c_X6_whyNotDash l g p1 p2 p3 _ h2) gX6_dash_X6_whyNotDash rfl wo_X6_whyNotDash (rmk hR rfl rfl) rfl rfl hl.1 (Nat.le_of_ble_eq_true rfl) rz dX6_dash_3 (n := 7) (is := []) (rs := [0, 1, 2, 3, 4, 5, 6]) (bs' := [[(A b, .inr (6, [.ref (A (b + 1)), .ref (A (b + 2)), .int x.2.2.1, .ref (A (b + 3)), .int x.2.2.2.2.1, .ref (A (b + 4)), .int x.2.2.2.2.2.2.1, .ref (A (b + 5)), .ref (A (b + 6)), .int x.2.2.2.2.2.2.2.2.2.1, .int x.2.2.2.2.2.2.2.2.2.2.1, .int x.2.2.2.2.2.2.2.2.2.2.2]))], [(A (b + 1), .inl (gI g, 268, .inl x.1))], [(A (b + 2), .inl (gI g, 1340, .inl x.2.1))], [(A (b + 3), .inl (gI g, 268, .inl x.2.2.2.1))], [(A (b + 4), .inl (gC g, 70, .inl x.2.2.2.2.2.1))], [(A (b + 5), .inl (gI g, 3, .inl x.2.2.2.2.2.2.2.1))], [(A (b + 6), .inl (gI g, 144, .inl x.2.2.2.2.2.2.2.2.1))]]) rfl rfl pm_38 rfl rfl rfl (fun H locs hW => ?_)
  refine lv_istore (lv' := [(4, .int t1), (0, .ref (A b)), (1, .int p1), (2, .int p2), (3, .int p3)]) hx hb dX6_dash_6 hl (by decide) rfl (fun ls hl => ?_)
  refine lv_iload hx hb dX6_dash_8 (lv_at hl 0 rfl) ?_
  refine lv_if_ge (tgt := 16) hx hb dX6_dash_10 (by decide) (fun e3 => ?_) (fun e3 => ?_)
  · replace h := q_t e3 h
    refine lv_aload_n hx hb dX6_dash_16 rfl (lv_at hl 1 rfl) ?_
    obtain ⟨t4, h5, h⟩ := q_b h
    refine r_cVv C hW (nA := 0) (As := []) (rest := []) (c_X6_record l g A b x _ h5) gX6_dash_X6_record rfl ⟨rfl, wo_X6_record⟩ (rmk hR rfl rfl) rfl rfl rfl rfl hl.1 (Nat.le_of_ble_eq_true rfl) rz dX6_dash_17 (n := 7) (is := [0, 1, 2, 3, 4, 5, 6]) (rs := []) (bs' := [[(A b, .inr (6, [.ref (A (b + 1)), .ref (A (b + 2)), .int t4.2.2.1, .ref (A (b + 3)), .int t4.2.2.2.2.1, .ref (A (b + 4)), .int t4.2.2.2.2.2.2.1, .ref (A (b + 5)), .ref (A (b + 6)), .int t4.2.2.2.2.2.2.2.2.2.1, .int t4.2.2.2.2.2.2.2.2.2.2.1, .int t4.2.2.2.2.2.2.2.2.2.2.2]))], [(A (b + 1), .inl (gI g, 268, .inl t4.1))], [(A (b + 2), .inl (gI g, 1340, .inl t4.2.1))], [(A (b + 3), .inl (gI g, 268, .inl t4.2.2.2.1))], [(A (b + 4), .inl (gC g, 70, .inl t4.2.2.2.2.2.1))], [(A (b + 5), .inl (gI g, 3, .inl t4.2.2.2.2.2.2.2.1))], [(A (b + 6), .inl (gI g, 144, .inl t4.2.2.2.2.2.2.2.2.1))]]) rfl rfl pm_39 rfl rfl rfl (fun H locs hW => ?_)
    refine lv_aload_n hx hb dX6_dash_20 rfl (lv_at hl 1 rfl) ?_
    refine r_get C hW (K := RX6) (T := TX6) (N := 12) (v := .ref (A (b + 1))) 0 0 0 rfl rfl rfl inX6_dash_X6 (by decide) (List.mem_of_getElem? (i := 1) rfl) rfl rfl dX6_dash_21 ?_
    refine lv_iload_n hx hb dX6_dash_24 rfl (lv_at hl 2 rfl) ?_
    refine lv_iload_n hx hb dX6_dash_25 rfl (lv_at hl 3 rfl) ?_
    obtain ⟨t6, h7, h⟩ := q_b h
    refine r_cSi C hW (nA := 2) (As := [.int p1, .int p2]) (rest := [.ref (A (b + 1))]) (c_X6_lineAt l g p1 p2 _ h7) gX6_dash_X6_lineAt rfl wo_X6_lineAt (rmk hR rfl rfl) rfl rfl hl.1 (Nat.le_of_ble_eq_true rfl) rz dX6_dash_26 (n := 7) (is := []) (rs := [0, 1, 2, 3, 4, 5, 6]) (bs' := [[(A b, .inr (6, [.ref (A (b + 1)), .ref (A (b + 2)), .int t4.2.2.1, .ref (A (b + 3)), .int t4.2.2.2.2.1, .ref (A (b + 4)), .int t4.2.2.2.2.2.2.1, .ref (A (b + 5)), .ref (A (b + 6)), .int t4.2.2.2.2.2.2.2.2.2.1, .int t4.2.2.2.2.2.2.2.2.2.2.1, .int t4.2.2.2.2.2.2.2.2.2.2.2]))], [(A (b + 1), .inl (gI g, 268, .inl t4.1))], [(A (b + 2), .inl (gI g, 1340, .inl t4.2.1))], [(A (b + 3), .inl (gI g, 268, .inl t4.2.2.2.1))], [(A (b + 4), .inl (gC g, 70, .inl t4.2.2.2.2.2.1))], [(A (b + 5), .inl (gI g, 3, .inl t4.2.2.2.2.2.2.2.1))], [(A (b + 6), .inl (gI g, 144, .inl t4.2.2.2.2.2.2.2.2.1))]]) rfl rfl pm_38 rfl rfl rfl (fun H locs hW => ?_)
    obtain ⟨g8, h⟩ := q_g h
    refine r_iald C hW 1 0 rfl rfl g8 dX6_dash_29 ?_
    refine lv_istore (lv' := [(5, .int (t4.1 (t6).toNatClampNeg)), (4, .int t1), (0, .ref (A b)), (1, .int p1), (2, .int p2), (3, .int p3)]) hx hb dX6_dash_30 hl (by decide) rfl (fun ls hl => ?_)
    refine lv_aload_n hx hb dX6_dash_32 rfl (lv_at hl 2 rfl) ?_
    refine lv_iload_n hx hb dX6_dash_33 rfl (lv_at hl 3 rfl) ?_
    refine lv_iload_n hx hb dX6_dash_34 rfl (lv_at hl 4 rfl) ?_
    obtain ⟨t9, h10, h⟩ := q_b h
    refine r_cSi C hW (nA := 2) (As := [.int p1, .int p2]) (rest := [.ref (A b)]) (c_X6_lineAt l g p1 p2 _ h10) gX6_dash_X6_lineAt rfl wo_X6_lineAt (rmk hR rfl rfl) rfl rfl hl.1 (Nat.le_of_ble_eq_true rfl) rz dX6_dash_35 (n := 7) (is := []) (rs := [0, 1, 2, 3, 4, 5, 6]) (bs' := [[(A b, .inr (6, [.ref (A (b + 1)), .ref (A (b + 2)), .int t4.2.2.1, .ref (A (b + 3)), .int t4.2.2.2.2.1, .ref (A (b + 4)), .int t4.2.2.2.2.2.2.1, .ref (A (b + 5)), .ref (A (b + 6)), .int t4.2.2.2.2.2.2.2.2.2.1, .int t4.2.2.2.2.2.2.2.2.2.2.1, .int t4.2.2.2.2.2.2.2.2.2.2.2]))], [(A (b + 1), .inl (gI g, 268, .inl t4.1))], [(A (b + 2), .inl (gI g, 1340, .inl t4.2.1))], [(A (b + 3), .inl (gI g, 268, .inl t4.2.2.2.1))], [(A (b + 4), .inl (gC g, 70, .inl t4.2.2.2.2.2.1))], [(A (b + 5), .inl (gI g, 3, .inl t4.2.2.2.2.2.2.2.1))], [(A (b + 6), .inl (gI g, 144, .inl t4.2.2.2.2.2.2.2.2.1))]]) rfl rfl pm_38 rfl rfl rfl (fun H locs hW => ?_)
    refine lv_iload_n hx hb dX6_dash_38 rfl (lv_at hl 5 rfl) ?_
    obtain ⟨t11, h12, h⟩ := q_b h
    refine r_cVi C hW (nA := 2) (As := [.int t9, .int p3]) (rest := []) (c_X6_signs l g A b t4 t9 p3 _ _ h12) gX6_dash_X6_signs rfl ⟨rfl, wo_X6_signs⟩ (rmk hR rfl rfl) rfl rfl rfl rfl hl.1 (Nat.le_of_ble_eq_true rfl) rz dX6_dash_39 (n := 7) (is := [0, 1, 2, 3, 4, 5, 6]) (rs := []) (bs' := [[(A b, .inr (6, [.ref (A (b + 1)), .ref (A (b + 2)), .int t11.2.2.2.1, .ref (A (b + 3)), .int t11.2.2.2.2.2.1, .ref (A (b + 4)), .int t11.2.2.2.2.2.2.2.1, .ref (A (b + 5)), .ref (A (b + 6)), .int t11.2.2.2.2.2.2.2.2.2.2.1, .int t11.2.2.2.2.2.2.2.2.2.2.2.1, .int t11.2.2.2.2.2.2.2.2.2.2.2.2]))], [(A (b + 1), .inl (gI g, 268, .inl t11.2.1))], [(A (b + 2), .inl (gI g, 1340, .inl t11.2.2.1))], [(A (b + 3), .inl (gI g, 268, .inl t11.2.2.2.2.1))], [(A (b + 4), .inl (gC g, 70, .inl t11.2.2.2.2.2.2.1))], [(A (b + 5), .inl (gI g, 3, .inl t11.2.2.2.2.2.2.2.2.1))], [(A (b + 6), .inl (gI g, 144, .inl t11.2.2.2.2.2.2.2.2.2.1))]]) rfl rfl pm_39 rfl rfl rfl (fun H locs hW => ?_)
    refine lv_pop hx hb dX6_dash_42 rfl ?_
    refine lv_iload hx hb dX6_dash_43 (lv_at hl 0 rfl) ?_
    cases h
    exact E _ _ _ _ _ hW rfl rfl dX6_dash_45
  · replace h := q_f e3 h
    refine lv_iload hx hb dX6_dash_13 (lv_at hl 0 rfl) ?_
    cases h
    exact E _ _ _ _ _ hW rfl rfl dX6_dash_15
