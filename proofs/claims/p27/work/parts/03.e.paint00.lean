def f_X5_isPlace (p1 : Int32) (p2 : Int32) (p3 : Int32) : Option (Int32) :=
(f_X5_isWithin p1 0 (p2 - 1)).bind fun t1 =>
if t1 = 0 then (
some 0)
else (
(f_X5_isWithin p3 0 15).bind fun t4 =>
if t4 = 0 then (
some 0)
else (
some 1))
theorem wo_X5_isPlace : wordsOk yX5_isPlace 3 := by decide +kernel
set_option maxHeartbeats 4000000 in
set_option maxRecDepth 100000 in
theorem c_X5_isPlace (l : Launch) (g : GG) (p1 : Int32) (p2 : Int32) (p3 : Int32) (r : Int32) (h : f_X5_isPlace p1 p2 p3 = some r) : CI l yX5_isPlace wsX5_isPlace 1 22 g [.int p1, .int p2, .int p3] ([]) r ([]) := by
  refine CI.mk (own := RX5) (by decide) rfl rfl (Nat.le_of_ble_eq_true rfl) ?_
  intro p e R s m args below meth c Z Q C E hR H hW ls hl
  have hx := C.1.1
  have hb := C.1.2.1
  have hown := C.1.2.2.2.1
  replace hW : WdG g Z s.heap H [] [] := hW.re rfl
  replace hl : lv_has ls 3 [(0, .int p1), (1, .int p2), (2, .int p3)] := hl
  unfold f_X5_isPlace at h
  refine lv_iload_n hx hb dX5_isPlace_0 rfl (lv_at hl 0 rfl) ?_
  refine lv_iconst (v := 0) hx hb dX5_isPlace_1 (by decide) ?_
  refine lv_iload_n hx hb dX5_isPlace_2 rfl (lv_at hl 1 rfl) ?_
  refine lv_iconst (v := 1) hx hb dX5_isPlace_3 (by decide) ?_
  refine lv_isub hx hb dX5_isPlace_4 ?_
  obtain ⟨t1, h2, h⟩ := q_b h
  refine r_cSi C hW (nA := 3) (As := [.int p1, .int 0, .int (p2 - 1)]) (rest := []) (c_X5_isWithin l g p1 0 (p2 - 1) _ h2) gX5_isPlace_X5_isWithin rfl wo_X5_isWithin (rmk hR rfl rfl) rfl rfl hl.1 (Nat.le_of_ble_eq_true rfl) rz dX5_isPlace_5 (n := 0) (is := []) (rs := []) (bs' := []) rfl rfl pm_40238e4f rfl rfl rfl (fun H locs hW => ?_)
  refine lv_if_eq (tgt := 25) hx hb dX5_isPlace_8 (by decide) (fun e3 => ?_) (fun e3 => ?_)
  · replace h := q_t e3 h
    refine lv_iconst (v := 0) hx hb dX5_isPlace_25 (by decide) ?_
    cases h
    exact E _ _ _ _ _ hW rfl rfl dX5_isPlace_26
  · replace h := q_f e3 h
    refine lv_iload_n hx hb dX5_isPlace_11 rfl (lv_at hl 2 rfl) ?_
    refine lv_iconst (v := 0) hx hb dX5_isPlace_12 (by decide) ?_
    refine lv_bipush (v := 15) hx hb dX5_isPlace_13 (by decide) ?_
    obtain ⟨t4, h5, h⟩ := q_b h
    refine r_cSi C hW (nA := 3) (As := [.int p3, .int 0, .int 15]) (rest := []) (c_X5_isWithin l g p3 0 15 _ h5) gX5_isPlace_X5_isWithin rfl wo_X5_isWithin (rmk hR rfl rfl) rfl rfl hl.1 (Nat.le_of_ble_eq_true rfl) rz dX5_isPlace_15 (n := 0) (is := []) (rs := []) (bs' := []) rfl rfl pm_40238e4f rfl rfl rfl (fun H locs hW => ?_)
    refine lv_if_eq (tgt := 25) hx hb dX5_isPlace_18 (by decide) (fun e6 => ?_) (fun e6 => ?_)
    · replace h := q_t e6 h
      refine lv_iconst (v := 0) hx hb dX5_isPlace_25 (by decide) ?_
      cases h
      exact E _ _ _ _ _ hW rfl rfl dX5_isPlace_26
    · replace h := q_f e6 h
      refine lv_iconst (v := 1) hx hb dX5_isPlace_21 (by decide) ?_
      refine lv_goto (tgt := 26) hx hb dX5_isPlace_22 (by decide) ?_
      cases h
      exact E _ _ _ _ _ hW rfl rfl dX5_isPlace_26
def f_X5_placeError (p1 : Int32) (p2 : Int32) (p3 : Int32) (p4 : Int32) (p5 : Int32) : Option (Int32) :=
(f_X5_isPlace p1 p2 p3).bind fun t1 =>
if t1 = 0 then (
some (-1))
else (
(f_X5_isWithin p4 0 (p5 - 1)).bind fun t4 =>
if t4 = 0 then (
some (-2))
else (
some 0))
theorem wo_X5_placeError : wordsOk yX5_placeError 5 := by decide +kernel
set_option maxHeartbeats 4000000 in
set_option maxRecDepth 100000 in
theorem c_X5_placeError (l : Launch) (g : GG) (p1 : Int32) (p2 : Int32) (p3 : Int32) (p4 : Int32) (p5 : Int32) (r : Int32) (h : f_X5_placeError p1 p2 p3 p4 p5 = some r) : CI l yX5_placeError wsX5_placeError 2 44 g [.int p1, .int p2, .int p3, .int p4, .int p5] ([]) r ([]) := by
  refine CI.mk (own := RX5) (by decide) rfl rfl (Nat.le_of_ble_eq_true rfl) ?_
  intro p e R s m args below meth c Z Q C E hR H hW ls hl
  have hx := C.1.1
  have hb := C.1.2.1
  have hown := C.1.2.2.2.1
  replace hW : WdG g Z s.heap H [] [] := hW.re rfl
  replace hl : lv_has ls 5 [(0, .int p1), (1, .int p2), (2, .int p3), (3, .int p4), (4, .int p5)] := hl
  unfold f_X5_placeError at h
  refine lv_iload_n hx hb dX5_placeError_0 rfl (lv_at hl 0 rfl) ?_
  refine lv_iload_n hx hb dX5_placeError_1 rfl (lv_at hl 1 rfl) ?_
  refine lv_iload_n hx hb dX5_placeError_2 rfl (lv_at hl 2 rfl) ?_
  obtain ⟨t1, h2, h⟩ := q_b h
  refine r_cSi C hW (nA := 3) (As := [.int p1, .int p2, .int p3]) (rest := []) (c_X5_isPlace l g p1 p2 p3 _ h2) gX5_placeError_X5_isPlace rfl wo_X5_isPlace (rmk hR rfl rfl) rfl rfl hl.1 (Nat.le_of_ble_eq_true rfl) rz dX5_placeError_3 (n := 0) (is := []) (rs := []) (bs' := []) rfl rfl pm_40238e4f rfl rfl rfl (fun H locs hW => ?_)
  refine lv_if_ne (tgt := 11) hx hb dX5_placeError_6 (by decide) (fun e3 => ?_) (fun e3 => ?_)
  · replace h := q_f e3 h
    refine lv_iload_n hx hb dX5_placeError_11 rfl (lv_at hl 3 rfl) ?_
    refine lv_iconst (v := 0) hx hb dX5_placeError_12 (by decide) ?_
    refine lv_iload hx hb dX5_placeError_13 (lv_at hl 4 rfl) ?_
    refine lv_iconst (v := 1) hx hb dX5_placeError_15 (by decide) ?_
    refine lv_isub hx hb dX5_placeError_16 ?_
    obtain ⟨t4, h5, h⟩ := q_b h
    refine r_cSi C hW (nA := 3) (As := [.int p4, .int 0, .int (p5 - 1)]) (rest := []) (c_X5_isWithin l g p4 0 (p5 - 1) _ h5) gX5_placeError_X5_isWithin rfl wo_X5_isWithin (rmk hR rfl rfl) rfl rfl hl.1 (Nat.le_of_ble_eq_true rfl) rz dX5_placeError_17 (n := 0) (is := []) (rs := []) (bs' := []) rfl rfl pm_40238e4f rfl rfl rfl (fun H locs hW => ?_)
    refine lv_if_eq (tgt := 27) hx hb dX5_placeError_20 (by decide) (fun e6 => ?_) (fun e6 => ?_)
    · replace h := q_t e6 h
      refine lv_bipush (v := (-2)) hx hb dX5_placeError_27 (by decide) ?_
      cases h
      exact E _ _ _ _ _ hW rfl rfl dX5_placeError_29
    · replace h := q_f e6 h
      refine lv_iconst (v := 0) hx hb dX5_placeError_23 (by decide) ?_
      refine lv_goto (tgt := 29) hx hb dX5_placeError_24 (by decide) ?_
      cases h
      exact E _ _ _ _ _ hW rfl rfl dX5_placeError_29
  · replace h := q_t e3 h
    refine lv_iconst (v := (-1)) hx hb dX5_placeError_9 (by decide) ?_
    cases h
    exact E _ _ _ _ _ hW rfl rfl dX5_placeError_10
def f_X5_arrowError (x : TX5s) (p1 : Int32) (p2 : Int32) (p3 : Int32) : Option (Int32) :=
(f_X5_placeError p1 3 p2 p3 3).bind fun t1 =>
if t1 = 0 then (
(f_X3_refusal x.1 p1 p2 p3).bind fun t4 =>
if t4 = 0 then (
some 0)
else (
some (-3)))
else (
some t1)
theorem wo_X5_arrowError : wordsOk yX5_arrowError 3 := by decide +kernel
theorem inX5_arrowError_X5 : ∀ w ∈ wsX50, w ∈ wsX5_arrowError := fun _ h => List.mem_cons_of_mem _ (List.mem_append_left _ (List.mem_append_left _ (List.mem_append_right _ h)))
set_option maxHeartbeats 4000000 in
set_option maxRecDepth 100000 in
theorem c_X5_arrowError (l : Launch) (g : GG) (A : Nat → Nat) (b : Nat) (x : TX5s) (p1 : Int32) (p2 : Int32) (p3 : Int32) (r : Int32) (h : f_X5_arrowError x p1 p2 p3 = some r) : CI l yX5_arrowError wsX5_arrowError 3 76 g [.ref (A b), .int p1, .int p2, .int p3] (wX5 g A b x) r (wX5 g A b x) := by
  refine CI.mk (own := RX5) (by decide) rfl rfl (Nat.le_of_ble_eq_true rfl) ?_
  intro p e R s m args below meth c Z Q C E hR H hW ls hl
  have hx := C.1.1
  have hb := C.1.2.1
  have hown := C.1.2.2.2.1
  replace hW : WdG g Z s.heap H [] [[(A b, .inr (5, [.ref (A (b + 1)), .ref (A (b + 13)), .int x.2.2.1, .ref (A (b + 25)), .ref (A (b + 87)), .ref (A (b + 89))]))], [(A (b + 1), .inr (3, [.ref (A (b + 1 + 1)), .ref (A (b + 1 + 4)), .ref (A (b + 1 + 7)), .ref (A (b + 1 + 10)), .ref (A (b + 1 + 11)), .int x.1.2.2.2.2.2.1, .int x.1.2.2.2.2.2.2.1, .int x.1.2.2.2.2.2.2.2.1, .int x.1.2.2.2.2.2.2.2.2.1, .int x.1.2.2.2.2.2.2.2.2.2]))], wX4 g A (b + 1 + 1) x.1.1, wX4 g A (b + 1 + 4) x.1.2.1, wX4 g A (b + 1 + 7) x.1.2.2.1, [(A (b + 1 + 10), .inl (gI g, 3, .inl x.1.2.2.2.1))], [(A (b + 1 + 11), .inl (gI g, 2, .inl x.1.2.2.2.2.1))], wX3 g A (b + 13) x.2.1, [(A (b + 25), .inr (1, [.ref (A (b + 25 + 1)), .int x.2.2.2.1.2.1, .int x.2.2.2.1.2.2]))], [(A (b + 25 + 1), .inl (gR g, 5, .inr (.inr (.inr (.inr (fun k => some (A (b + 25 + 2 + 12 * k))))))))], wX3 g A (b + 25 + 2) (x.2.2.2.1.1 0), wX3 g A (b + 25 + 14) (x.2.2.2.1.1 1), wX3 g A (b + 25 + 26) (x.2.2.2.1.1 2), wX3 g A (b + 25 + 38) (x.2.2.2.1.1 3), wX3 g A (b + 25 + 50) (x.2.2.2.1.1 4), [(A (b + 87), .inr (2, [.ref (A (b + 87 + 1)), .int x.2.2.2.2.1.2]))], [(A (b + 87 + 1), .inl (gC g, 70, .inl x.2.2.2.2.1.1))], [(A (b + 89), .inr (0, [.ref (A (b + 89 + 1))]))], [(A (b + 89 + 1), .inl (gI g, 3, .inl x.2.2.2.2.2))]] := hW.re rfl
  replace hl : lv_has ls 5 [(0, .ref (A b)), (1, .int p1), (2, .int p2), (3, .int p3)] := hl
  unfold f_X5_arrowError at h
  refine lv_iload_n hx hb dX5_arrowError_0 rfl (lv_at hl 1 rfl) ?_
  refine lv_iconst (v := 3) hx hb dX5_arrowError_1 (by decide) ?_
  refine lv_iload_n hx hb dX5_arrowError_2 rfl (lv_at hl 2 rfl) ?_
  refine lv_iload_n hx hb dX5_arrowError_3 rfl (lv_at hl 3 rfl) ?_
  refine lv_iconst (v := 3) hx hb dX5_arrowError_4 (by decide) ?_
  obtain ⟨t1, h2, h⟩ := q_b h
  refine r_cSi C hW (nA := 5) (As := [.int p1, .int 3, .int p2, .int p3, .int 3]) (rest := []) (c_X5_placeError l g p1 3 p2 p3 3 _ h2) gX5_arrowError_X5_placeError rfl wo_X5_placeError (rmk hR rfl rfl) rfl rfl hl.1 (Nat.le_of_ble_eq_true rfl) rz dX5_arrowError_5 (n := 19) (is := []) (rs := [0, 1, 2, 3, 4, 5, 6, 7, 8, 9, 10, 11, 12, 13, 14, 15, 16, 17, 18]) (bs' := [[(A b, .inr (5, [.ref (A (b + 1)), .ref (A (b + 13)), .int x.2.2.1, .ref (A (b + 25)), .ref (A (b + 87)), .ref (A (b + 89))]))], [(A (b + 1), .inr (3, [.ref (A (b + 1 + 1)), .ref (A (b + 1 + 4)), .ref (A (b + 1 + 7)), .ref (A (b + 1 + 10)), .ref (A (b + 1 + 11)), .int x.1.2.2.2.2.2.1, .int x.1.2.2.2.2.2.2.1, .int x.1.2.2.2.2.2.2.2.1, .int x.1.2.2.2.2.2.2.2.2.1, .int x.1.2.2.2.2.2.2.2.2.2]))], wX4 g A (b + 1 + 1) x.1.1, wX4 g A (b + 1 + 4) x.1.2.1, wX4 g A (b + 1 + 7) x.1.2.2.1, [(A (b + 1 + 10), .inl (gI g, 3, .inl x.1.2.2.2.1))], [(A (b + 1 + 11), .inl (gI g, 2, .inl x.1.2.2.2.2.1))], wX3 g A (b + 13) x.2.1, [(A (b + 25), .inr (1, [.ref (A (b + 25 + 1)), .int x.2.2.2.1.2.1, .int x.2.2.2.1.2.2]))], [(A (b + 25 + 1), .inl (gR g, 5, .inr (.inr (.inr (.inr (fun k => some (A (b + 25 + 2 + 12 * k))))))))], wX3 g A (b + 25 + 2) (x.2.2.2.1.1 0), wX3 g A (b + 25 + 14) (x.2.2.2.1.1 1), wX3 g A (b + 25 + 26) (x.2.2.2.1.1 2), wX3 g A (b + 25 + 38) (x.2.2.2.1.1 3), wX3 g A (b + 25 + 50) (x.2.2.2.1.1 4), [(A (b + 87), .inr (2, [.ref (A (b + 87 + 1)), .int x.2.2.2.2.1.2]))], [(A (b + 87 + 1), .inl (gC g, 70, .inl x.2.2.2.2.1.1))], [(A (b + 89), .inr (0, [.ref (A (b + 89 + 1))]))], [(A (b + 89 + 1), .inl (gI g, 3, .inl x.2.2.2.2.2))]]) rfl rfl pm_ccd1cee3 rfl rfl (pk2 (rl := [[(A b, .inr (5, [.ref (A (b + 1)), .ref (A (b + 13)), .int x.2.2.1, .ref (A (b + 25)), .ref (A (b + 87)), .ref (A (b + 89))]))], [(A (b + 1), .inr (3, [.ref (A (b + 1 + 1)), .ref (A (b + 1 + 4)), .ref (A (b + 1 + 7)), .ref (A (b + 1 + 10)), .ref (A (b + 1 + 11)), .int x.1.2.2.2.2.2.1, .int x.1.2.2.2.2.2.2.1, .int x.1.2.2.2.2.2.2.2.1, .int x.1.2.2.2.2.2.2.2.2.1, .int x.1.2.2.2.2.2.2.2.2.2]))], wX4 g A (b + 1 + 1) x.1.1, wX4 g A (b + 1 + 4) x.1.2.1, wX4 g A (b + 1 + 7) x.1.2.2.1, [(A (b + 1 + 10), .inl (gI g, 3, .inl x.1.2.2.2.1))], [(A (b + 1 + 11), .inl (gI g, 2, .inl x.1.2.2.2.2.1))], wX3 g A (b + 13) x.2.1, [(A (b + 25), .inr (1, [.ref (A (b + 25 + 1)), .int x.2.2.2.1.2.1, .int x.2.2.2.1.2.2]))], [(A (b + 25 + 1), .inl (gR g, 5, .inr (.inr (.inr (.inr (fun k => some (A (b + 25 + 2 + 12 * k))))))))], wX3 g A (b + 25 + 2) (x.2.2.2.1.1 0), wX3 g A (b + 25 + 14) (x.2.2.2.1.1 1), wX3 g A (b + 25 + 26) (x.2.2.2.1.1 2), wX3 g A (b + 25 + 38) (x.2.2.2.1.1 3), wX3 g A (b + 25 + 50) (x.2.2.2.1.1 4), [(A (b + 87), .inr (2, [.ref (A (b + 87 + 1)), .int x.2.2.2.2.1.2]))], [(A (b + 87 + 1), .inl (gC g, 70, .inl x.2.2.2.2.1.1))], [(A (b + 89), .inr (0, [.ref (A (b + 89 + 1))]))], [(A (b + 89 + 1), .inl (gI g, 3, .inl x.2.2.2.2.2))]]) rfl rfl) (fun H locs hW => ?_)
  refine lv_istore (lv' := [(4, .int t1), (0, .ref (A b)), (1, .int p1), (2, .int p2), (3, .int p3)]) hx hb dX5_arrowError_8 hl (by decide) rfl (fun ls hl => ?_)
  refine lv_iload hx hb dX5_arrowError_10 (lv_at hl 0 rfl) ?_
  refine lv_if_eq (tgt := 18) hx hb dX5_arrowError_12 (by decide) (fun e3 => ?_) (fun e3 => ?_)
  · replace h := q_t e3 h
    refine lv_aload_n hx hb dX5_arrowError_18 rfl (lv_at hl 1 rfl) ?_
    refine r_get C hW (K := RX5) (T := TX5) (N := 6) (v := .ref (A (b + 1))) 0 0 0 rfl rfl rfl inX5_arrowError_X5 (by decide) (List.mem_of_getElem? (i := 1) rfl) rfl rfl dX5_arrowError_19 ?_
    refine lv_iload_n hx hb dX5_arrowError_22 rfl (lv_at hl 2 rfl) ?_
    refine lv_iload_n hx hb dX5_arrowError_23 rfl (lv_at hl 3 rfl) ?_
    refine lv_iload_n hx hb dX5_arrowError_24 rfl (lv_at hl 4 rfl) ?_
    obtain ⟨t4, h5, h⟩ := q_b h
    refine r_cVi C hW (nA := 3) (As := [.int p1, .int p2, .int p3]) (rest := []) (c_X3_refusal l g A (b + 1) x.1 p1 p2 p3 _ h5) gX5_arrowError_X3_refusal rfl ⟨rfl, wo_X3_refusal⟩ (rmk hR rfl rfl) rfl rfl rfl rfl hl.1 (Nat.le_of_ble_eq_true rfl) rz dX5_arrowError_25 (n := 19) (is := [1, 2, 3, 4, 5, 6]) (rs := [0, 7, 8, 9, 10, 11, 12, 13, 14, 15, 16, 17, 18]) (bs' := [[(A b, .inr (5, [.ref (A (b + 1)), .ref (A (b + 13)), .int x.2.2.1, .ref (A (b + 25)), .ref (A (b + 87)), .ref (A (b + 89))]))], [(A (b + 1), .inr (3, [.ref (A (b + 1 + 1)), .ref (A (b + 1 + 4)), .ref (A (b + 1 + 7)), .ref (A (b + 1 + 10)), .ref (A (b + 1 + 11)), .int x.1.2.2.2.2.2.1, .int x.1.2.2.2.2.2.2.1, .int x.1.2.2.2.2.2.2.2.1, .int x.1.2.2.2.2.2.2.2.2.1, .int x.1.2.2.2.2.2.2.2.2.2]))], wX4 g A (b + 1 + 1) x.1.1, wX4 g A (b + 1 + 4) x.1.2.1, wX4 g A (b + 1 + 7) x.1.2.2.1, [(A (b + 1 + 10), .inl (gI g, 3, .inl x.1.2.2.2.1))], [(A (b + 1 + 11), .inl (gI g, 2, .inl x.1.2.2.2.2.1))], wX3 g A (b + 13) x.2.1, [(A (b + 25), .inr (1, [.ref (A (b + 25 + 1)), .int x.2.2.2.1.2.1, .int x.2.2.2.1.2.2]))], [(A (b + 25 + 1), .inl (gR g, 5, .inr (.inr (.inr (.inr (fun k => some (A (b + 25 + 2 + 12 * k))))))))], wX3 g A (b + 25 + 2) (x.2.2.2.1.1 0), wX3 g A (b + 25 + 14) (x.2.2.2.1.1 1), wX3 g A (b + 25 + 26) (x.2.2.2.1.1 2), wX3 g A (b + 25 + 38) (x.2.2.2.1.1 3), wX3 g A (b + 25 + 50) (x.2.2.2.1.1 4), [(A (b + 87), .inr (2, [.ref (A (b + 87 + 1)), .int x.2.2.2.2.1.2]))], [(A (b + 87 + 1), .inl (gC g, 70, .inl x.2.2.2.2.1.1))], [(A (b + 89), .inr (0, [.ref (A (b + 89 + 1))]))], [(A (b + 89 + 1), .inl (gI g, 3, .inl x.2.2.2.2.2))]]) rfl rfl pm_4197aa27 rfl rfl (pk2 (rl := [[(A b, .inr (5, [.ref (A (b + 1)), .ref (A (b + 13)), .int x.2.2.1, .ref (A (b + 25)), .ref (A (b + 87)), .ref (A (b + 89))]))], wX3 g A (b + 13) x.2.1, [(A (b + 25), .inr (1, [.ref (A (b + 25 + 1)), .int x.2.2.2.1.2.1, .int x.2.2.2.1.2.2]))], [(A (b + 25 + 1), .inl (gR g, 5, .inr (.inr (.inr (.inr (fun k => some (A (b + 25 + 2 + 12 * k))))))))], wX3 g A (b + 25 + 2) (x.2.2.2.1.1 0), wX3 g A (b + 25 + 14) (x.2.2.2.1.1 1), wX3 g A (b + 25 + 26) (x.2.2.2.1.1 2), wX3 g A (b + 25 + 38) (x.2.2.2.1.1 3), wX3 g A (b + 25 + 50) (x.2.2.2.1.1 4), [(A (b + 87), .inr (2, [.ref (A (b + 87 + 1)), .int x.2.2.2.2.1.2]))], [(A (b + 87 + 1), .inl (gC g, 70, .inl x.2.2.2.2.1.1))], [(A (b + 89), .inr (0, [.ref (A (b + 89 + 1))]))], [(A (b + 89 + 1), .inl (gI g, 3, .inl x.2.2.2.2.2))]]) rfl rfl) (fun H locs hW => ?_)
    refine lv_if_ne (tgt := 35) hx hb dX5_arrowError_28 (by decide) (fun e6 => ?_) (fun e6 => ?_)
    · replace h := q_f e6 h
      refine lv_bipush (v := (-3)) hx hb dX5_arrowError_35 (by decide) ?_
      cases h
      exact E _ _ _ _ _ hW rfl rfl dX5_arrowError_37
    · replace h := q_t e6 h
      refine lv_iconst (v := 0) hx hb dX5_arrowError_31 (by decide) ?_
      refine lv_goto (tgt := 37) hx hb dX5_arrowError_32 (by decide) ?_
      cases h
      exact E _ _ _ _ _ hW rfl rfl dX5_arrowError_37
  · replace h := q_f e3 h
    refine lv_iload hx hb dX5_arrowError_15 (lv_at hl 0 rfl) ?_
    cases h
    exact E _ _ _ _ _ hW rfl rfl dX5_arrowError_17
def f_X5_recordedRoad (x : TX5s) : Option (TX5s) :=
(f_X1_record x.2.2.2.1 x.1).bind fun t1 =>
some (x.1, x.2.1, x.2.2.1, t1, x.2.2.2.2.1, x.2.2.2.2.2)
theorem wo_X5_recordedRoad : wordsOk yX5_recordedRoad 0 := by decide +kernel
theorem inX5_recordedRoad_X5 : ∀ w ∈ wsX50, w ∈ wsX5_recordedRoad := fun _ h => List.mem_cons_of_mem _ (List.mem_append_left _ (List.mem_append_left _ (List.mem_append_left _ (List.mem_append_right _ h))))
set_option maxHeartbeats 4000000 in
set_option maxRecDepth 100000 in
theorem c_X5_recordedRoad (l : Launch) (g : GG) (A : Nat → Nat) (b : Nat) (x : TX5s) (x' : TX5s) (h : f_X5_recordedRoad x = some x') : CR l yX5_recordedRoad wsX5_recordedRoad 3 102 g [.ref (A b)] (wX5 g A b x) (A (b + 1)) (wX5 g A b x') := by
  refine CR.mk (own := RX5) (by decide) rfl rfl (Nat.le_of_ble_eq_true rfl) ?_
  intro p e R s m args below meth c Z Q C E hR H hW ls hl
  have hx := C.1.1
  have hb := C.1.2.1
  have hown := C.1.2.2.2.1
  replace hW : WdG g Z s.heap H [] [[(A b, .inr (5, [.ref (A (b + 1)), .ref (A (b + 13)), .int x.2.2.1, .ref (A (b + 25)), .ref (A (b + 87)), .ref (A (b + 89))]))], [(A (b + 1), .inr (3, [.ref (A (b + 1 + 1)), .ref (A (b + 1 + 4)), .ref (A (b + 1 + 7)), .ref (A (b + 1 + 10)), .ref (A (b + 1 + 11)), .int x.1.2.2.2.2.2.1, .int x.1.2.2.2.2.2.2.1, .int x.1.2.2.2.2.2.2.2.1, .int x.1.2.2.2.2.2.2.2.2.1, .int x.1.2.2.2.2.2.2.2.2.2]))], wX4 g A (b + 1 + 1) x.1.1, wX4 g A (b + 1 + 4) x.1.2.1, wX4 g A (b + 1 + 7) x.1.2.2.1, [(A (b + 1 + 10), .inl (gI g, 3, .inl x.1.2.2.2.1))], [(A (b + 1 + 11), .inl (gI g, 2, .inl x.1.2.2.2.2.1))], wX3 g A (b + 13) x.2.1, [(A (b + 25), .inr (1, [.ref (A (b + 25 + 1)), .int x.2.2.2.1.2.1, .int x.2.2.2.1.2.2]))], [(A (b + 25 + 1), .inl (gR g, 5, .inr (.inr (.inr (.inr (fun k => some (A (b + 25 + 2 + 12 * k))))))))], wX3 g A (b + 25 + 2) (x.2.2.2.1.1 0), wX3 g A (b + 25 + 14) (x.2.2.2.1.1 1), wX3 g A (b + 25 + 26) (x.2.2.2.1.1 2), wX3 g A (b + 25 + 38) (x.2.2.2.1.1 3), wX3 g A (b + 25 + 50) (x.2.2.2.1.1 4), [(A (b + 87), .inr (2, [.ref (A (b + 87 + 1)), .int x.2.2.2.2.1.2]))], [(A (b + 87 + 1), .inl (gC g, 70, .inl x.2.2.2.2.1.1))], [(A (b + 89), .inr (0, [.ref (A (b + 89 + 1))]))], [(A (b + 89 + 1), .inl (gI g, 3, .inl x.2.2.2.2.2))]] := hW.re rfl
  replace hl : lv_has ls 1 [(0, .ref (A b))] := hl
  unfold f_X5_recordedRoad at h
  refine lv_aload_n hx hb dX5_recordedRoad_0 rfl (lv_at hl 0 rfl) ?_
  refine r_get C hW (K := RX5) (T := TX5) (N := 6) (v := .ref (A (b + 25))) 0 0 3 rfl rfl rfl inX5_recordedRoad_X5 (by decide) (List.mem_of_getElem? (i := 1) rfl) rfl rfl dX5_recordedRoad_1 ?_
  refine lv_aload_n hx hb dX5_recordedRoad_4 rfl (lv_at hl 0 rfl) ?_
  refine r_get C hW (K := RX5) (T := TX5) (N := 6) (v := .ref (A (b + 1))) 0 0 0 rfl rfl rfl inX5_recordedRoad_X5 (by decide) (List.mem_of_getElem? (i := 2) rfl) rfl rfl dX5_recordedRoad_5 ?_
  obtain ⟨t1, h2, h⟩ := q_b h
  refine r_cVv C hW (nA := 1) (As := [.ref (A (b + 1))]) (rest := []) (c_X1_record l g A (b + 25) A (b + 1) x.2.2.2.1 x.1 _ h2) gX5_recordedRoad_X1_record rfl ⟨rfl, wo_X1_record⟩ (rmk hR rfl rfl) rfl rfl rfl rfl hl.1 (Nat.le_of_ble_eq_true rfl) rz dX5_recordedRoad_8 (n := 19) (is := [8, 9, 10, 11, 12, 13, 14, 1, 2, 3, 4, 5, 6]) (rs := [0, 7, 15, 16, 17, 18]) (bs' := [[(A b, .inr (5, [.ref (A (b + 1)), .ref (A (b + 13)), .int x.2.2.1, .ref (A (b + 25)), .ref (A (b + 87)), .ref (A (b + 89))]))], [(A (b + 1), .inr (3, [.ref (A (b + 1 + 1)), .ref (A (b + 1 + 4)), .ref (A (b + 1 + 7)), .ref (A (b + 1 + 10)), .ref (A (b + 1 + 11)), .int x.1.2.2.2.2.2.1, .int x.1.2.2.2.2.2.2.1, .int x.1.2.2.2.2.2.2.2.1, .int x.1.2.2.2.2.2.2.2.2.1, .int x.1.2.2.2.2.2.2.2.2.2]))], wX4 g A (b + 1 + 1) x.1.1, wX4 g A (b + 1 + 4) x.1.2.1, wX4 g A (b + 1 + 7) x.1.2.2.1, [(A (b + 1 + 10), .inl (gI g, 3, .inl x.1.2.2.2.1))], [(A (b + 1 + 11), .inl (gI g, 2, .inl x.1.2.2.2.2.1))], wX3 g A (b + 13) x.2.1, [(A (b + 25), .inr (1, [.ref (A (b + 25 + 1)), .int t1.2.1, .int t1.2.2]))], [(A (b + 25 + 1), .inl (gR g, 5, .inr (.inr (.inr (.inr (fun k => some (A (b + 25 + 2 + 12 * k))))))))], wX3 g A (b + 25 + 2) (t1.1 0), wX3 g A (b + 25 + 14) (t1.1 1), wX3 g A (b + 25 + 26) (t1.1 2), wX3 g A (b + 25 + 38) (t1.1 3), wX3 g A (b + 25 + 50) (t1.1 4), [(A (b + 87), .inr (2, [.ref (A (b + 87 + 1)), .int x.2.2.2.2.1.2]))], [(A (b + 87 + 1), .inl (gC g, 70, .inl x.2.2.2.2.1.1))], [(A (b + 89), .inr (0, [.ref (A (b + 89 + 1))]))], [(A (b + 89 + 1), .inl (gI g, 3, .inl x.2.2.2.2.2))]]) rfl rfl pm_5ec06602 rfl rfl (pk2 (rl := [[(A b, .inr (5, [.ref (A (b + 1)), .ref (A (b + 13)), .int x.2.2.1, .ref (A (b + 25)), .ref (A (b + 87)), .ref (A (b + 89))]))], wX3 g A (b + 13) x.2.1, [(A (b + 87), .inr (2, [.ref (A (b + 87 + 1)), .int x.2.2.2.2.1.2]))], [(A (b + 87 + 1), .inl (gC g, 70, .inl x.2.2.2.2.1.1))], [(A (b + 89), .inr (0, [.ref (A (b + 89 + 1))]))], [(A (b + 89 + 1), .inl (gI g, 3, .inl x.2.2.2.2.2))]]) rfl rfl) (fun H locs hW => ?_)
  refine lv_aload_n hx hb dX5_recordedRoad_11 rfl (lv_at hl 0 rfl) ?_
  refine r_get C hW (K := RX5) (T := TX5) (N := 6) (v := .ref (A (b + 1))) 0 0 0 rfl rfl rfl inX5_recordedRoad_X5 (by decide) (List.mem_of_getElem? (i := 2) rfl) rfl rfl dX5_recordedRoad_12 ?_
  cases h
  exact E _ _ _ _ _ hW rfl dX5_recordedRoad_15
def f_X5_arrow (x : TX5s) (p1 : Int32) (p2 : Int32) (p3 : Int32) : Option (Int32 × TX5s) :=
(f_X5_arrowError x p1 p2 p3).bind fun t1 =>
if t1 = 0 then (
(f_X5_recordedRoad x).bind fun t4 =>
(f_X3_putArrow t4.1 p1 p2 p3).bind fun t6 =>
some (t6.1, (t6.2, t4.2.1, t4.2.2.1, t4.2.2.2.1, t4.2.2.2.2.1, t4.2.2.2.2.2)))
else (
some (t1, x))
theorem wo_X5_arrow : wordsOk yX5_arrow 3 := by decide +kernel
set_option maxHeartbeats 4000000 in
set_option maxRecDepth 100000 in
theorem c_X5_arrow (l : Launch) (g : GG) (A : Nat → Nat) (b : Nat) (x : TX5s) (p1 : Int32) (p2 : Int32) (p3 : Int32) (r : Int32) (x' : TX5s) (h : f_X5_arrow x p1 p2 p3 = some (r, x')) : CI l yX5_arrow wsX5_arrow 4 122 g [.ref (A b), .int p1, .int p2, .int p3] (wX5 g A b x) r (wX5 g A b x') := by
  refine CI.mk (own := RX5) (by decide) rfl rfl (Nat.le_of_ble_eq_true rfl) ?_
  intro p e R s m args below meth c Z Q C E hR H hW ls hl
  have hx := C.1.1
  have hb := C.1.2.1
  have hown := C.1.2.2.2.1
  replace hW : WdG g Z s.heap H [] [[(A b, .inr (5, [.ref (A (b + 1)), .ref (A (b + 13)), .int x.2.2.1, .ref (A (b + 25)), .ref (A (b + 87)), .ref (A (b + 89))]))], [(A (b + 1), .inr (3, [.ref (A (b + 1 + 1)), .ref (A (b + 1 + 4)), .ref (A (b + 1 + 7)), .ref (A (b + 1 + 10)), .ref (A (b + 1 + 11)), .int x.1.2.2.2.2.2.1, .int x.1.2.2.2.2.2.2.1, .int x.1.2.2.2.2.2.2.2.1, .int x.1.2.2.2.2.2.2.2.2.1, .int x.1.2.2.2.2.2.2.2.2.2]))], wX4 g A (b + 1 + 1) x.1.1, wX4 g A (b + 1 + 4) x.1.2.1, wX4 g A (b + 1 + 7) x.1.2.2.1, [(A (b + 1 + 10), .inl (gI g, 3, .inl x.1.2.2.2.1))], [(A (b + 1 + 11), .inl (gI g, 2, .inl x.1.2.2.2.2.1))], wX3 g A (b + 13) x.2.1, [(A (b + 25), .inr (1, [.ref (A (b + 25 + 1)), .int x.2.2.2.1.2.1, .int x.2.2.2.1.2.2]))], [(A (b + 25 + 1), .inl (gR g, 5, .inr (.inr (.inr (.inr (fun k => some (A (b + 25 + 2 + 12 * k))))))))], wX3 g A (b + 25 + 2) (x.2.2.2.1.1 0), wX3 g A (b + 25 + 14) (x.2.2.2.1.1 1), wX3 g A (b + 25 + 26) (x.2.2.2.1.1 2), wX3 g A (b + 25 + 38) (x.2.2.2.1.1 3), wX3 g A (b + 25 + 50) (x.2.2.2.1.1 4), [(A (b + 87), .inr (2, [.ref (A (b + 87 + 1)), .int x.2.2.2.2.1.2]))], [(A (b + 87 + 1), .inl (gC g, 70, .inl x.2.2.2.2.1.1))], [(A (b + 89), .inr (0, [.ref (A (b + 89 + 1))]))], [(A (b + 89 + 1), .inl (gI g, 3, .inl x.2.2.2.2.2))]] := hW.re rfl
  replace hl : lv_has ls 5 [(0, .ref (A b)), (1, .int p1), (2, .int p2), (3, .int p3)] := hl
  unfold f_X5_arrow at h
  refine lv_aload_n hx hb dX5_arrow_0 rfl (lv_at hl 0 rfl) ?_
  refine lv_iload_n hx hb dX5_arrow_1 rfl (lv_at hl 1 rfl) ?_
  refine lv_iload_n hx hb dX5_arrow_2 rfl (lv_at hl 2 rfl) ?_
  refine lv_iload_n hx hb dX5_arrow_3 rfl (lv_at hl 3 rfl) ?_
  obtain ⟨t1, h2, h⟩ := q_b h
  refine r_cVi C hW (nA := 3) (As := [.int p1, .int p2, .int p3]) (rest := []) (c_X5_arrowError l g A b x p1 p2 p3 _ h2) gX5_arrow_X5_arrowError rfl ⟨rfl, wo_X5_arrowError⟩ (rmk hR rfl rfl) rfl rfl rfl rfl hl.1 (Nat.le_of_ble_eq_true rfl) rz dX5_arrow_4 (n := 19) (is := [0, 1, 2, 3, 4, 5, 6, 7, 8, 9, 10, 11, 12, 13, 14, 15, 16, 17, 18]) (rs := []) (bs' := [[(A b, .inr (5, [.ref (A (b + 1)), .ref (A (b + 13)), .int x.2.2.1, .ref (A (b + 25)), .ref (A (b + 87)), .ref (A (b + 89))]))], [(A (b + 1), .inr (3, [.ref (A (b + 1 + 1)), .ref (A (b + 1 + 4)), .ref (A (b + 1 + 7)), .ref (A (b + 1 + 10)), .ref (A (b + 1 + 11)), .int x.1.2.2.2.2.2.1, .int x.1.2.2.2.2.2.2.1, .int x.1.2.2.2.2.2.2.2.1, .int x.1.2.2.2.2.2.2.2.2.1, .int x.1.2.2.2.2.2.2.2.2.2]))], wX4 g A (b + 1 + 1) x.1.1, wX4 g A (b + 1 + 4) x.1.2.1, wX4 g A (b + 1 + 7) x.1.2.2.1, [(A (b + 1 + 10), .inl (gI g, 3, .inl x.1.2.2.2.1))], [(A (b + 1 + 11), .inl (gI g, 2, .inl x.1.2.2.2.2.1))], wX3 g A (b + 13) x.2.1, [(A (b + 25), .inr (1, [.ref (A (b + 25 + 1)), .int x.2.2.2.1.2.1, .int x.2.2.2.1.2.2]))], [(A (b + 25 + 1), .inl (gR g, 5, .inr (.inr (.inr (.inr (fun k => some (A (b + 25 + 2 + 12 * k))))))))], wX3 g A (b + 25 + 2) (x.2.2.2.1.1 0), wX3 g A (b + 25 + 14) (x.2.2.2.1.1 1), wX3 g A (b + 25 + 26) (x.2.2.2.1.1 2), wX3 g A (b + 25 + 38) (x.2.2.2.1.1 3), wX3 g A (b + 25 + 50) (x.2.2.2.1.1 4), [(A (b + 87), .inr (2, [.ref (A (b + 87 + 1)), .int x.2.2.2.2.1.2]))], [(A (b + 87 + 1), .inl (gC g, 70, .inl x.2.2.2.2.1.1))], [(A (b + 89), .inr (0, [.ref (A (b + 89 + 1))]))], [(A (b + 89 + 1), .inl (gI g, 3, .inl x.2.2.2.2.2))]]) rfl rfl pm_9dbfb40b rfl rfl rfl (fun H locs hW => ?_)
  refine lv_istore (lv' := [(4, .int t1), (0, .ref (A b)), (1, .int p1), (2, .int p2), (3, .int p3)]) hx hb dX5_arrow_7 hl (by decide) rfl (fun ls hl => ?_)
  refine lv_iload hx hb dX5_arrow_9 (lv_at hl 0 rfl) ?_
  refine lv_if_eq (tgt := 19) hx hb dX5_arrow_11 (by decide) (fun e3 => ?_) (fun e3 => ?_)
  · replace h := q_t e3 h
    refine lv_aload_n hx hb dX5_arrow_19 rfl (lv_at hl 1 rfl) ?_
    obtain ⟨t4, h5, h⟩ := q_b h
    refine r_cVr C hW (nA := 0) (As := []) (rest := []) (c_X5_recordedRoad l g A b x _ h5) gX5_arrow_X5_recordedRoad rfl ⟨rfl, wo_X5_recordedRoad⟩ (rmk hR rfl rfl) rfl rfl rfl rfl hl.1 (Nat.le_of_ble_eq_true rfl) rz dX5_arrow_20 (n := 19) (is := [0, 1, 2, 3, 4, 5, 6, 7, 8, 9, 10, 11, 12, 13, 14, 15, 16, 17, 18]) (rs := []) (bs' := [[(A b, .inr (5, [.ref (A (b + 1)), .ref (A (b + 13)), .int t4.2.2.1, .ref (A (b + 25)), .ref (A (b + 87)), .ref (A (b + 89))]))], [(A (b + 1), .inr (3, [.ref (A (b + 1 + 1)), .ref (A (b + 1 + 4)), .ref (A (b + 1 + 7)), .ref (A (b + 1 + 10)), .ref (A (b + 1 + 11)), .int t4.1.2.2.2.2.2.1, .int t4.1.2.2.2.2.2.2.1, .int t4.1.2.2.2.2.2.2.2.1, .int t4.1.2.2.2.2.2.2.2.2.1, .int t4.1.2.2.2.2.2.2.2.2.2]))], wX4 g A (b + 1 + 1) t4.1.1, wX4 g A (b + 1 + 4) t4.1.2.1, wX4 g A (b + 1 + 7) t4.1.2.2.1, [(A (b + 1 + 10), .inl (gI g, 3, .inl t4.1.2.2.2.1))], [(A (b + 1 + 11), .inl (gI g, 2, .inl t4.1.2.2.2.2.1))], wX3 g A (b + 13) t4.2.1, [(A (b + 25), .inr (1, [.ref (A (b + 25 + 1)), .int t4.2.2.2.1.2.1, .int t4.2.2.2.1.2.2]))], [(A (b + 25 + 1), .inl (gR g, 5, .inr (.inr (.inr (.inr (fun k => some (A (b + 25 + 2 + 12 * k))))))))], wX3 g A (b + 25 + 2) (t4.2.2.2.1.1 0), wX3 g A (b + 25 + 14) (t4.2.2.2.1.1 1), wX3 g A (b + 25 + 26) (t4.2.2.2.1.1 2), wX3 g A (b + 25 + 38) (t4.2.2.2.1.1 3), wX3 g A (b + 25 + 50) (t4.2.2.2.1.1 4), [(A (b + 87), .inr (2, [.ref (A (b + 87 + 1)), .int t4.2.2.2.2.1.2]))], [(A (b + 87 + 1), .inl (gC g, 70, .inl t4.2.2.2.2.1.1))], [(A (b + 89), .inr (0, [.ref (A (b + 89 + 1))]))], [(A (b + 89 + 1), .inl (gI g, 3, .inl t4.2.2.2.2.2))]]) rfl rfl pm_9dbfb40b rfl rfl rfl (fun H locs hW => ?_)
    refine lv_iload_n hx hb dX5_arrow_23 rfl (lv_at hl 2 rfl) ?_
    refine lv_iload_n hx hb dX5_arrow_24 rfl (lv_at hl 3 rfl) ?_
    refine lv_iload_n hx hb dX5_arrow_25 rfl (lv_at hl 4 rfl) ?_
    obtain ⟨t6, h7, h⟩ := q_b h
    refine r_cVi C hW (nA := 3) (As := [.int p1, .int p2, .int p3]) (rest := []) (c_X3_putArrow l g A (b + 1) t4.1 p1 p2 p3 _ _ h7) gX5_arrow_X3_putArrow rfl ⟨rfl, wo_X3_putArrow⟩ (rmk hR rfl rfl) rfl rfl rfl rfl hl.1 (Nat.le_of_ble_eq_true rfl) rz dX5_arrow_26 (n := 19) (is := [1, 2, 3, 4, 5, 6]) (rs := [0, 7, 8, 9, 10, 11, 12, 13, 14, 15, 16, 17, 18]) (bs' := [[(A b, .inr (5, [.ref (A (b + 1)), .ref (A (b + 13)), .int t4.2.2.1, .ref (A (b + 25)), .ref (A (b + 87)), .ref (A (b + 89))]))], [(A (b + 1), .inr (3, [.ref (A (b + 1 + 1)), .ref (A (b + 1 + 4)), .ref (A (b + 1 + 7)), .ref (A (b + 1 + 10)), .ref (A (b + 1 + 11)), .int t6.2.2.2.2.2.2.1, .int t6.2.2.2.2.2.2.2.1, .int t6.2.2.2.2.2.2.2.2.1, .int t6.2.2.2.2.2.2.2.2.2.1, .int t6.2.2.2.2.2.2.2.2.2.2]))], wX4 g A (b + 1 + 1) t6.2.1, wX4 g A (b + 1 + 4) t6.2.2.1, wX4 g A (b + 1 + 7) t6.2.2.2.1, [(A (b + 1 + 10), .inl (gI g, 3, .inl t6.2.2.2.2.1))], [(A (b + 1 + 11), .inl (gI g, 2, .inl t6.2.2.2.2.2.1))], wX3 g A (b + 13) t4.2.1, [(A (b + 25), .inr (1, [.ref (A (b + 25 + 1)), .int t4.2.2.2.1.2.1, .int t4.2.2.2.1.2.2]))], [(A (b + 25 + 1), .inl (gR g, 5, .inr (.inr (.inr (.inr (fun k => some (A (b + 25 + 2 + 12 * k))))))))], wX3 g A (b + 25 + 2) (t4.2.2.2.1.1 0), wX3 g A (b + 25 + 14) (t4.2.2.2.1.1 1), wX3 g A (b + 25 + 26) (t4.2.2.2.1.1 2), wX3 g A (b + 25 + 38) (t4.2.2.2.1.1 3), wX3 g A (b + 25 + 50) (t4.2.2.2.1.1 4), [(A (b + 87), .inr (2, [.ref (A (b + 87 + 1)), .int t4.2.2.2.2.1.2]))], [(A (b + 87 + 1), .inl (gC g, 70, .inl t4.2.2.2.2.1.1))], [(A (b + 89), .inr (0, [.ref (A (b + 89 + 1))]))], [(A (b + 89 + 1), .inl (gI g, 3, .inl t4.2.2.2.2.2))]]) rfl rfl pm_4197aa27 rfl rfl (pk2 (rl := [[(A b, .inr (5, [.ref (A (b + 1)), .ref (A (b + 13)), .int t4.2.2.1, .ref (A (b + 25)), .ref (A (b + 87)), .ref (A (b + 89))]))], wX3 g A (b + 13) t4.2.1, [(A (b + 25), .inr (1, [.ref (A (b + 25 + 1)), .int t4.2.2.2.1.2.1, .int t4.2.2.2.1.2.2]))], [(A (b + 25 + 1), .inl (gR g, 5, .inr (.inr (.inr (.inr (fun k => some (A (b + 25 + 2 + 12 * k))))))))], wX3 g A (b + 25 + 2) (t4.2.2.2.1.1 0), wX3 g A (b + 25 + 14) (t4.2.2.2.1.1 1), wX3 g A (b + 25 + 26) (t4.2.2.2.1.1 2), wX3 g A (b + 25 + 38) (t4.2.2.2.1.1 3), wX3 g A (b + 25 + 50) (t4.2.2.2.1.1 4), [(A (b + 87), .inr (2, [.ref (A (b + 87 + 1)), .int t4.2.2.2.2.1.2]))], [(A (b + 87 + 1), .inl (gC g, 70, .inl t4.2.2.2.2.1.1))], [(A (b + 89), .inr (0, [.ref (A (b + 89 + 1))]))], [(A (b + 89 + 1), .inl (gI g, 3, .inl t4.2.2.2.2.2))]]) rfl rfl) (fun H locs hW => ?_)
    cases h
    exact E _ _ _ _ _ hW rfl rfl dX5_arrow_29
  · replace h := q_f e3 h
    refine lv_iload hx hb dX5_arrow_14 (lv_at hl 0 rfl) ?_
    refine lv_goto (tgt := 29) hx hb dX5_arrow_16 (by decide) ?_
    cases h
    exact E _ _ _ _ _ hW rfl rfl dX5_arrow_29
