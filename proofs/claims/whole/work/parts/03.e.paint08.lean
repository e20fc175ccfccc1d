def f_X5_append (x : TX5s) (p1 : Int32) : Option (Int32 × TX5s) :=
(f_X5_isWithin p1 33 126).bind fun t1 =>
if t1 = 0 then (
some ((-2), x))
else (
if x.2.2.2.2.1.2 < 70 then (
(f_X2_add x.2.2.2.2.1 p1).bind fun t5 =>
some (t5.1, (x.1, x.2.1, x.2.2.1, x.2.2.2.1, t5.2, x.2.2.2.2.2)))
else (
some ((-4), x)))
theorem wo_X5_append : wordsOk yX5_append 1 := by decide +kernel
theorem inX5_append_X2 : ∀ w ∈ wsX20, w ∈ wsX5_append := fun _ h => List.mem_cons_of_mem _ (List.mem_append_right _ h)
theorem inX5_append_X5 : ∀ w ∈ wsX50, w ∈ wsX5_append := fun _ h => List.mem_cons_of_mem _ (List.mem_append_left _ (List.mem_append_right _ h))
set_option maxHeartbeats 4000000 in
set_option maxRecDepth 100000 in
theorem c_X5_append (l : Launch) (g : GG) (A : Nat → Nat) (b : Nat) (x : TX5s) (p1 : Int32) (r : Int32) (x' : TX5s) (h : f_X5_append x p1 = some (r, x')) : CI l yX5_append wsX5_append 1 22 g [.ref (A b), .int p1] (wX5 g A b x) r (wX5 g A b x') := by
  refine CI.mk (own := RX5) (by decide) rfl rfl (Nat.le_of_ble_eq_true rfl) ?_
  intro p e R s m args below meth c Z Q C E hR H hW ls hl
  have hx := C.1.1
  have hb := C.1.2.1
  have hown := C.1.2.2.2.1
  replace hW : WdG g Z s.heap H [] [[(A b, .inr (5, [.ref (A (b + 1)), .ref (A (b + 13)), .int x.2.2.1, .ref (A (b + 25)), .ref (A (b + 87)), .ref (A (b + 89))]))], [(A (b + 1), .inr (3, [.ref (A (b + 1 + 1)), .ref (A (b + 1 + 4)), .ref (A (b + 1 + 7)), .ref (A (b + 1 + 10)), .ref (A (b + 1 + 11)), .int x.1.2.2.2.2.2.1, .int x.1.2.2.2.2.2.2.1, .int x.1.2.2.2.2.2.2.2.1, .int x.1.2.2.2.2.2.2.2.2.1, .int x.1.2.2.2.2.2.2.2.2.2]))], wX4 g A (b + 1 + 1) x.1.1, wX4 g A (b + 1 + 4) x.1.2.1, wX4 g A (b + 1 + 7) x.1.2.2.1, [(A (b + 1 + 10), .inl (gI g, 3, .inl x.1.2.2.2.1))], [(A (b + 1 + 11), .inl (gI g, 2, .inl x.1.2.2.2.2.1))], wX3 g A (b + 13) x.2.1, [(A (b + 25), .inr (1, [.ref (A (b + 25 + 1)), .int x.2.2.2.1.2.1, .int x.2.2.2.1.2.2]))], [(A (b + 25 + 1), .inl (gR g, 5, .inr (.inr (.inr (.inr (fun k => some (A (b + 25 + 2 + 12 * k))))))))], wX3 g A (b + 25 + 2) (x.2.2.2.1.1 0), wX3 g A (b + 25 + 14) (x.2.2.2.1.1 1), wX3 g A (b + 25 + 26) (x.2.2.2.1.1 2), wX3 g A (b + 25 + 38) (x.2.2.2.1.1 3), wX3 g A (b + 25 + 50) (x.2.2.2.1.1 4), [(A (b + 87), .inr (2, [.ref (A (b + 87 + 1)), .int x.2.2.2.2.1.2]))], [(A (b + 87 + 1), .inl (gC g, 70, .inl x.2.2.2.2.1.1))], [(A (b + 89), .inr (0, [.ref (A (b + 89 + 1))]))], [(A (b + 89 + 1), .inl (gI g, 3, .inl x.2.2.2.2.2))]] := hW.re rfl
  replace hl : lv_has ls 2 [(0, .ref (A b)), (1, .int p1)] := hl
  unfold f_X5_append at h
  refine lv_iload_n hx hb dX5_append_0 rfl (lv_at hl 1 rfl) ?_
  refine lv_bipush (v := 33) hx hb dX5_append_1 (by decide) ?_
  refine lv_bipush (v := 126) hx hb dX5_append_3 (by decide) ?_
  obtain ⟨t1, h2, h⟩ := q_b h
  refine r_cSi C hW (nA := 3) (As := [.int p1, .int 33, .int 126]) (rest := []) (c_X5_isWithin l g p1 33 126 _ h2) gX5_append_X5_isWithin rfl wo_X5_isWithin (rmk hR rfl rfl) rfl rfl hl.1 (Nat.le_of_ble_eq_true rfl) rz dX5_append_5 (n := 19) (is := []) (rs := [0, 1, 2, 3, 4, 5, 6, 7, 8, 9, 10, 11, 12, 13, 14, 15, 16, 17, 18]) (bs' := [[(A b, .inr (5, [.ref (A (b + 1)), .ref (A (b + 13)), .int x.2.2.1, .ref (A (b + 25)), .ref (A (b + 87)), .ref (A (b + 89))]))], [(A (b + 1), .inr (3, [.ref (A (b + 1 + 1)), .ref (A (b + 1 + 4)), .ref (A (b + 1 + 7)), .ref (A (b + 1 + 10)), .ref (A (b + 1 + 11)), .int x.1.2.2.2.2.2.1, .int x.1.2.2.2.2.2.2.1, .int x.1.2.2.2.2.2.2.2.1, .int x.1.2.2.2.2.2.2.2.2.1, .int x.1.2.2.2.2.2.2.2.2.2]))], wX4 g A (b + 1 + 1) x.1.1, wX4 g A (b + 1 + 4) x.1.2.1, wX4 g A (b + 1 + 7) x.1.2.2.1, [(A (b + 1 + 10), .inl (gI g, 3, .inl x.1.2.2.2.1))], [(A (b + 1 + 11), .inl (gI g, 2, .inl x.1.2.2.2.2.1))], wX3 g A (b + 13) x.2.1, [(A (b + 25), .inr (1, [.ref (A (b + 25 + 1)), .int x.2.2.2.1.2.1, .int x.2.2.2.1.2.2]))], [(A (b + 25 + 1), .inl (gR g, 5, .inr (.inr (.inr (.inr (fun k => some (A (b + 25 + 2 + 12 * k))))))))], wX3 g A (b + 25 + 2) (x.2.2.2.1.1 0), wX3 g A (b + 25 + 14) (x.2.2.2.1.1 1), wX3 g A (b + 25 + 26) (x.2.2.2.1.1 2), wX3 g A (b + 25 + 38) (x.2.2.2.1.1 3), wX3 g A (b + 25 + 50) (x.2.2.2.1.1 4), [(A (b + 87), .inr (2, [.ref (A (b + 87 + 1)), .int x.2.2.2.2.1.2]))], [(A (b + 87 + 1), .inl (gC g, 70, .inl x.2.2.2.2.1.1))], [(A (b + 89), .inr (0, [.ref (A (b + 89 + 1))]))], [(A (b + 89 + 1), .inl (gI g, 3, .inl x.2.2.2.2.2))]]) rfl rfl pm_27 rfl rfl (pk2 (rl := [[(A b, .inr (5, [.ref (A (b + 1)), .ref (A (b + 13)), .int x.2.2.1, .ref (A (b + 25)), .ref (A (b + 87)), .ref (A (b + 89))]))], [(A (b + 1), .inr (3, [.ref (A (b + 1 + 1)), .ref (A (b + 1 + 4)), .ref (A (b + 1 + 7)), .ref (A (b + 1 + 10)), .ref (A (b + 1 + 11)), .int x.1.2.2.2.2.2.1, .int x.1.2.2.2.2.2.2.1, .int x.1.2.2.2.2.2.2.2.1, .int x.1.2.2.2.2.2.2.2.2.1, .int x.1.2.2.2.2.2.2.2.2.2]))], wX4 g A (b + 1 + 1) x.1.1, wX4 g A (b + 1 + 4) x.1.2.1, wX4 g A (b + 1 + 7) x.1.2.2.1, [(A (b + 1 + 10), .inl (gI g, 3, .inl x.1.2.2.2.1))], [(A (b + 1 + 11), .inl (gI g, 2, .inl x.1.2.2.2.2.1))], wX3 g A (b + 13) x.2.1, [(A (b + 25), .inr (1, [.ref (A (b + 25 + 1)), .int x.2.2.2.1.2.1, .int x.2.2.2.1.2.2]))], [(A (b + 25 + 1), .inl (gR g, 5, .inr (.inr (.inr (.inr (fun k => some (A (b + 25 + 2 + 12 * k))))))))], wX3 g A (b + 25 + 2) (x.2.2.2.1.1 0), wX3 g A (b + 25 + 14) (x.2.2.2.1.1 1), wX3 g A (b + 25 + 26) (x.2.2.2.1.1 2), wX3 g A (b + 25 + 38) (x.2.2.2.1.1 3), wX3 g A (b + 25 + 50) (x.2.2.2.1.1 4), [(A (b + 87), .inr (2, [.ref (A (b + 87 + 1)), .int x.2.2.2.2.1.2]))], [(A (b + 87 + 1), .inl (gC g, 70, .inl x.2.2.2.2.1.1))], [(A (b + 89), .inr (0, [.ref (A (b + 89 + 1))]))], [(A (b + 89 + 1), .inl (gI g, 3, .inl x.2.2.2.2.2))]]) rfl rfl) (fun H locs hW => ?_)
  refine lv_if_ne (tgt := 14) hx hb dX5_append_8 (by decide) (fun e3 => ?_) (fun e3 => ?_)
  · replace h := q_f e3 h
    refine lv_aload_n hx hb dX5_append_14 rfl (lv_at hl 0 rfl) ?_
    refine r_get C hW (K := RX5) (T := TX5) (N := 6) (v := .ref (A (b + 87))) 0 0 4 rfl rfl rfl inX5_append_X5 (by decide) (List.mem_of_getElem? (i := 1) rfl) rfl rfl dX5_append_15 ?_
    refine r_getN C hW (K := RX2) (T := TX2) (N := 2) (v := .int x.2.2.2.2.1.2) 15 0 1 rfl rfl rfl inX5_append_X2 (by decide) (List.mem_of_getElem? (i := 9) rfl) rfl rfl dX5_append_18 ?_
    refine lv_bipush (v := 70) hx hb dX5_append_21 (by decide) ?_
    refine lv_icmp_lt (tgt := 29) hx hb dX5_append_23 (by decide) (fun e4 => ?_) (fun e4 => ?_)
    · replace h := q_t e4 h
      refine lv_aload_n hx hb dX5_append_29 rfl (lv_at hl 0 rfl) ?_
      refine r_get C hW (K := RX5) (T := TX5) (N := 6) (v := .ref (A (b + 87))) 0 0 4 rfl rfl rfl inX5_append_X5 (by decide) (List.mem_of_getElem? (i := 1) rfl) rfl rfl dX5_append_30 ?_
      refine lv_iload_n hx hb dX5_append_33 rfl (lv_at hl 1 rfl) ?_
      obtain ⟨t5, h6, h⟩ := q_b h
      refine r_cVi C hW (nA := 1) (As := [.int p1]) (rest := []) (c_X2_add l g A (b + 87) x.2.2.2.2.1 p1 _ _ h6) gX5_append_X2_add rfl ⟨rfl, wo_X2_add⟩ (rmk hR rfl rfl) rfl rfl rfl rfl hl.1 (Nat.le_of_ble_eq_true rfl) rz dX5_append_34 (n := 19) (is := [15, 16]) (rs := [0, 1, 2, 3, 4, 5, 6, 7, 8, 9, 10, 11, 12, 13, 14, 17, 18]) (bs' := [[(A b, .inr (5, [.ref (A (b + 1)), .ref (A (b + 13)), .int x.2.2.1, .ref (A (b + 25)), .ref (A (b + 87)), .ref (A (b + 89))]))], [(A (b + 1), .inr (3, [.ref (A (b + 1 + 1)), .ref (A (b + 1 + 4)), .ref (A (b + 1 + 7)), .ref (A (b + 1 + 10)), .ref (A (b + 1 + 11)), .int x.1.2.2.2.2.2.1, .int x.1.2.2.2.2.2.2.1, .int x.1.2.2.2.2.2.2.2.1, .int x.1.2.2.2.2.2.2.2.2.1, .int x.1.2.2.2.2.2.2.2.2.2]))], wX4 g A (b + 1 + 1) x.1.1, wX4 g A (b + 1 + 4) x.1.2.1, wX4 g A (b + 1 + 7) x.1.2.2.1, [(A (b + 1 + 10), .inl (gI g, 3, .inl x.1.2.2.2.1))], [(A (b + 1 + 11), .inl (gI g, 2, .inl x.1.2.2.2.2.1))], wX3 g A (b + 13) x.2.1, [(A (b + 25), .inr (1, [.ref (A (b + 25 + 1)), .int x.2.2.2.1.2.1, .int x.2.2.2.1.2.2]))], [(A (b + 25 + 1), .inl (gR g, 5, .inr (.inr (.inr (.inr (fun k => some (A (b + 25 + 2 + 12 * k))))))))], wX3 g A (b + 25 + 2) (x.2.2.2.1.1 0), wX3 g A (b + 25 + 14) (x.2.2.2.1.1 1), wX3 g A (b + 25 + 26) (x.2.2.2.1.1 2), wX3 g A (b + 25 + 38) (x.2.2.2.1.1 3), wX3 g A (b + 25 + 50) (x.2.2.2.1.1 4), [(A (b + 87), .inr (2, [.ref (A (b + 87 + 1)), .int t5.2.2]))], [(A (b + 87 + 1), .inl (gC g, 70, .inl t5.2.1))], [(A (b + 89), .inr (0, [.ref (A (b + 89 + 1))]))], [(A (b + 89 + 1), .inl (gI g, 3, .inl x.2.2.2.2.2))]]) rfl rfl pm_35 rfl rfl (pk2 (rl := [[(A b, .inr (5, [.ref (A (b + 1)), .ref (A (b + 13)), .int x.2.2.1, .ref (A (b + 25)), .ref (A (b + 87)), .ref (A (b + 89))]))], [(A (b + 1), .inr (3, [.ref (A (b + 1 + 1)), .ref (A (b + 1 + 4)), .ref (A (b + 1 + 7)), .ref (A (b + 1 + 10)), .ref (A (b + 1 + 11)), .int x.1.2.2.2.2.2.1, .int x.1.2.2.2.2.2.2.1, .int x.1.2.2.2.2.2.2.2.1, .int x.1.2.2.2.2.2.2.2.2.1, .int x.1.2.2.2.2.2.2.2.2.2]))], wX4 g A (b + 1 + 1) x.1.1, wX4 g A (b + 1 + 4) x.1.2.1, wX4 g A (b + 1 + 7) x.1.2.2.1, [(A (b + 1 + 10), .inl (gI g, 3, .inl x.1.2.2.2.1))], [(A (b + 1 + 11), .inl (gI g, 2, .inl x.1.2.2.2.2.1))], wX3 g A (b + 13) x.2.1, [(A (b + 25), .inr (1, [.ref (A (b + 25 + 1)), .int x.2.2.2.1.2.1, .int x.2.2.2.1.2.2]))], [(A (b + 25 + 1), .inl (gR g, 5, .inr (.inr (.inr (.inr (fun k => some (A (b + 25 + 2 + 12 * k))))))))], wX3 g A (b + 25 + 2) (x.2.2.2.1.1 0), wX3 g A (b + 25 + 14) (x.2.2.2.1.1 1), wX3 g A (b + 25 + 26) (x.2.2.2.1.1 2), wX3 g A (b + 25 + 38) (x.2.2.2.1.1 3), wX3 g A (b + 25 + 50) (x.2.2.2.1.1 4), [(A (b + 89), .inr (0, [.ref (A (b + 89 + 1))]))], [(A (b + 89 + 1), .inl (gI g, 3, .inl x.2.2.2.2.2))]]) rfl rfl) (fun H locs hW => ?_)
      cases h
      exact E _ _ _ _ _ hW rfl rfl dX5_append_37
    · replace h := q_f e4 h
      refine lv_bipush (v := (-4)) hx hb dX5_append_26 (by decide) ?_
      cases h
      exact E _ _ _ _ _ hW rfl rfl dX5_append_28
  · replace h := q_t e3 h
    refine lv_bipush (v := (-2)) hx hb dX5_append_11 (by decide) ?_
    cases h
    exact E _ _ _ _ _ hW rfl rfl dX5_append_13
def f_X5_clearText (x : TX5s) : Option (Int32 × TX5s) :=
(f_X2_empty x.2.2.2.2.1).bind fun t1 =>
some (t1.1, (x.1, x.2.1, x.2.2.1, x.2.2.2.1, t1.2, x.2.2.2.2.2))
theorem wo_X5_clearText : wordsOk yX5_clearText 0 := by decide +kernel
theorem inX5_clearText_X5 : ∀ w ∈ wsX50, w ∈ wsX5_clearText := fun _ h => List.mem_cons_of_mem _ (List.mem_append_left _ (List.mem_append_right _ h))
set_option maxHeartbeats 4000000 in
set_option maxRecDepth 100000 in
theorem c_X5_clearText (l : Launch) (g : GG) (A : Nat → Nat) (b : Nat) (x : TX5s) (r : Int32) (x' : TX5s) (h : f_X5_clearText x = some (r, x')) : CI l yX5_clearText wsX5_clearText 1 21 g [.ref (A b)] (wX5 g A b x) r (wX5 g A b x') := by
  refine CI.mk (own := RX5) (by decide) rfl rfl (Nat.le_of_ble_eq_true rfl) ?_
  intro p e R s m args below meth c Z Q C E hR H hW ls hl
  have hx := C.1.1
  have hb := C.1.2.1
  have hown := C.1.2.2.2.1
  replace hW : WdG g Z s.heap H [] [[(A b, .inr (5, [.ref (A (b + 1)), .ref (A (b + 13)), .int x.2.2.1, .ref (A (b + 25)), .ref (A (b + 87)), .ref (A (b + 89))]))], [(A (b + 1), .inr (3, [.ref (A (b + 1 + 1)), .ref (A (b + 1 + 4)), .ref (A (b + 1 + 7)), .ref (A (b + 1 + 10)), .ref (A (b + 1 + 11)), .int x.1.2.2.2.2.2.1, .int x.1.2.2.2.2.2.2.1, .int x.1.2.2.2.2.2.2.2.1, .int x.1.2.2.2.2.2.2.2.2.1, .int x.1.2.2.2.2.2.2.2.2.2]))], wX4 g A (b + 1 + 1) x.1.1, wX4 g A (b + 1 + 4) x.1.2.1, wX4 g A (b + 1 + 7) x.1.2.2.1, [(A (b + 1 + 10), .inl (gI g, 3, .inl x.1.2.2.2.1))], [(A (b + 1 + 11), .inl (gI g, 2, .inl x.1.2.2.2.2.1))], wX3 g A (b + 13) x.2.1, [(A (b + 25), .inr (1, [.ref (A (b + 25 + 1)), .int x.2.2.2.1.2.1, .int x.2.2.2.1.2.2]))], [(A (b + 25 + 1), .inl (gR g, 5, .inr (.inr (.inr (.inr (fun k => some (A (b + 25 + 2 + 12 * k))))))))], wX3 g A (b + 25 + 2) (x.2.2.2.1.1 0), wX3 g A (b + 25 + 14) (x.2.2.2.1.1 1), wX3 g A (b + 25 + 26) (x.2.2.2.1.1 2), wX3 g A (b + 25 + 38) (x.2.2.2.1.1 3), wX3 g A (b + 25 + 50) (x.2.2.2.1.1 4), [(A (b + 87), .inr (2, [.ref (A (b + 87 + 1)), .int x.2.2.2.2.1.2]))], [(A (b + 87 + 1), .inl (gC g, 70, .inl x.2.2.2.2.1.1))], [(A (b + 89), .inr (0, [.ref (A (b + 89 + 1))]))], [(A (b + 89 + 1), .inl (gI g, 3, .inl x.2.2.2.2.2))]] := hW.re rfl
  replace hl : lv_has ls 1 [(0, .ref (A b))] := hl
  unfold f_X5_clearText at h
  refine lv_aload_n hx hb dX5_clearText_0 rfl (lv_at hl 0 rfl) ?_
  refine r_get C hW (K := RX5) (T := TX5) (N := 6) (v := .ref (A (b + 87))) 0 0 4 rfl rfl rfl inX5_clearText_X5 (by decide) (List.mem_of_getElem? (i := 1) rfl) rfl rfl dX5_clearText_1 ?_
  obtain ⟨t1, h2, h⟩ := q_b h
  refine r_cVi C hW (nA := 0) (As := []) (rest := []) (c_X2_empty l g A (b + 87) x.2.2.2.2.1 _ _ h2) gX5_clearText_X2_empty rfl ⟨rfl, wo_X2_empty⟩ (rmk hR rfl rfl) rfl rfl rfl rfl hl.1 (Nat.le_of_ble_eq_true rfl) rz dX5_clearText_4 (n := 19) (is := [15, 16]) (rs := [0, 1, 2, 3, 4, 5, 6, 7, 8, 9, 10, 11, 12, 13, 14, 17, 18]) (bs' := [[(A b, .inr (5, [.ref (A (b + 1)), .ref (A (b + 13)), .int x.2.2.1, .ref (A (b + 25)), .ref (A (b + 87)), .ref (A (b + 89))]))], [(A (b + 1), .inr (3, [.ref (A (b + 1 + 1)), .ref (A (b + 1 + 4)), .ref (A (b + 1 + 7)), .ref (A (b + 1 + 10)), .ref (A (b + 1 + 11)), .int x.1.2.2.2.2.2.1, .int x.1.2.2.2.2.2.2.1, .int x.1.2.2.2.2.2.2.2.1, .int x.1.2.2.2.2.2.2.2.2.1, .int x.1.2.2.2.2.2.2.2.2.2]))], wX4 g A (b + 1 + 1) x.1.1, wX4 g A (b + 1 + 4) x.1.2.1, wX4 g A (b + 1 + 7) x.1.2.2.1, [(A (b + 1 + 10), .inl (gI g, 3, .inl x.1.2.2.2.1))], [(A (b + 1 + 11), .inl (gI g, 2, .inl x.1.2.2.2.2.1))], wX3 g A (b + 13) x.2.1, [(A (b + 25), .inr (1, [.ref (A (b + 25 + 1)), .int x.2.2.2.1.2.1, .int x.2.2.2.1.2.2]))], [(A (b + 25 + 1), .inl (gR g, 5, .inr (.inr (.inr (.inr (fun k => some (A (b + 25 + 2 + 12 * k))))))))], wX3 g A (b + 25 + 2) (x.2.2.2.1.1 0), wX3 g A (b + 25 + 14) (x.2.2.2.1.1 1), wX3 g A (b + 25 + 26) (x.2.2.2.1.1 2), wX3 g A (b + 25 + 38) (x.2.2.2.1.1 3), wX3 g A (b + 25 + 50) (x.2.2.2.1.1 4), [(A (b + 87), .inr (2, [.ref (A (b + 87 + 1)), .int t1.2.2]))], [(A (b + 87 + 1), .inl (gC g, 70, .inl t1.2.1))], [(A (b + 89), .inr (0, [.ref (A (b + 89 + 1))]))], [(A (b + 89 + 1), .inl (gI g, 3, .inl x.2.2.2.2.2))]]) rfl rfl pm_35 rfl rfl (pk2 (rl := [[(A b, .inr (5, [.ref (A (b + 1)), .ref (A (b + 13)), .int x.2.2.1, .ref (A (b + 25)), .ref (A (b + 87)), .ref (A (b + 89))]))], [(A (b + 1), .inr (3, [.ref (A (b + 1 + 1)), .ref (A (b + 1 + 4)), .ref (A (b + 1 + 7)), .ref (A (b + 1 + 10)), .ref (A (b + 1 + 11)), .int x.1.2.2.2.2.2.1, .int x.1.2.2.2.2.2.2.1, .int x.1.2.2.2.2.2.2.2.1, .int x.1.2.2.2.2.2.2.2.2.1, .int x.1.2.2.2.2.2.2.2.2.2]))], wX4 g A (b + 1 + 1) x.1.1, wX4 g A (b + 1 + 4) x.1.2.1, wX4 g A (b + 1 + 7) x.1.2.2.1, [(A (b + 1 + 10), .inl (gI g, 3, .inl x.1.2.2.2.1))], [(A (b + 1 + 11), .inl (gI g, 2, .inl x.1.2.2.2.2.1))], wX3 g A (b + 13) x.2.1, [(A (b + 25), .inr (1, [.ref (A (b + 25 + 1)), .int x.2.2.2.1.2.1, .int x.2.2.2.1.2.2]))], [(A (b + 25 + 1), .inl (gR g, 5, .inr (.inr (.inr (.inr (fun k => some (A (b + 25 + 2 + 12 * k))))))))], wX3 g A (b + 25 + 2) (x.2.2.2.1.1 0), wX3 g A (b + 25 + 14) (x.2.2.2.1.1 1), wX3 g A (b + 25 + 26) (x.2.2.2.1.1 2), wX3 g A (b + 25 + 38) (x.2.2.2.1.1 3), wX3 g A (b + 25 + 50) (x.2.2.2.1.1 4), [(A (b + 89), .inr (0, [.ref (A (b + 89 + 1))]))], [(A (b + 89 + 1), .inl (gI g, 3, .inl x.2.2.2.2.2))]]) rfl rfl) (fun H locs hW => ?_)
  cases h
  exact E _ _ _ _ _ hW rfl rfl dX5_clearText_7
def f_X5_errorPosition (x : TX5s) : Option (Int32) :=
(f_X2_firstError x.2.2.2.2.1).bind fun t1 =>
some t1
theorem wo_X5_errorPosition : wordsOk yX5_errorPosition 0 := by decide +kernel
theorem inX5_errorPosition_X5 : ∀ w ∈ wsX50, w ∈ wsX5_errorPosition := fun _ h => List.mem_cons_of_mem _ (List.mem_append_left _ (List.mem_append_right _ h))
set_option maxHeartbeats 4000000 in
set_option maxRecDepth 100000 in
theorem c_X5_errorPosition (l : Launch) (g : GG) (A : Nat → Nat) (b : Nat) (x : TX5s) (r : Int32) (h : f_X5_errorPosition x = some r) : CI l yX5_errorPosition wsX5_errorPosition 7 187 g [.ref (A b)] (wX5 g A b x) r (wX5 g A b x) := by
  refine CI.mk (own := RX5) (by decide) rfl rfl (Nat.le_of_ble_eq_true rfl) ?_
  intro p e R s m args below meth c Z Q C E hR H hW ls hl
  have hx := C.1.1
  have hb := C.1.2.1
  have hown := C.1.2.2.2.1
  replace hW : WdG g Z s.heap H [] [[(A b, .inr (5, [.ref (A (b + 1)), .ref (A (b + 13)), .int x.2.2.1, .ref (A (b + 25)), .ref (A (b + 87)), .ref (A (b + 89))]))], [(A (b + 1), .inr (3, [.ref (A (b + 1 + 1)), .ref (A (b + 1 + 4)), .ref (A (b + 1 + 7)), .ref (A (b + 1 + 10)), .ref (A (b + 1 + 11)), .int x.1.2.2.2.2.2.1, .int x.1.2.2.2.2.2.2.1, .int x.1.2.2.2.2.2.2.2.1, .int x.1.2.2.2.2.2.2.2.2.1, .int x.1.2.2.2.2.2.2.2.2.2]))], wX4 g A (b + 1 + 1) x.1.1, wX4 g A (b + 1 + 4) x.1.2.1, wX4 g A (b + 1 + 7) x.1.2.2.1, [(A (b + 1 + 10), .inl (gI g, 3, .inl x.1.2.2.2.1))], [(A (b + 1 + 11), .inl (gI g, 2, .inl x.1.2.2.2.2.1))], wX3 g A (b + 13) x.2.1, [(A (b + 25), .inr (1, [.ref (A (b + 25 + 1)), .int x.2.2.2.1.2.1, .int x.2.2.2.1.2.2]))], [(A (b + 25 + 1), .inl (gR g, 5, .inr (.inr (.inr (.inr (fun k => some (A (b + 25 + 2 + 12 * k))))))))], wX3 g A (b + 25 + 2) (x.2.2.2.1.1 0), wX3 g A (b + 25 + 14) (x.2.2.2.1.1 1), wX3 g A (b + 25 + 26) (x.2.2.2.1.1 2), wX3 g A (b + 25 + 38) (x.2.2.2.1.1 3), wX3 g A (b + 25 + 50) (x.2.2.2.1.1 4), [(A (b + 87), .inr (2, [.ref (A (b + 87 + 1)), .int x.2.2.2.2.1.2]))], [(A (b + 87 + 1), .inl (gC g, 70, .inl x.2.2.2.2.1.1))], [(A (b + 89), .inr (0, [.ref (A (b + 89 + 1))]))], [(A (b + 89 + 1), .inl (gI g, 3, .inl x.2.2.2.2.2))]] := hW.re rfl
  replace hl : lv_has ls 1 [(0, .ref (A b))] := hl
  unfold f_X5_errorPosition at h
  refine lv_aload_n hx hb dX5_errorPosition_0 rfl (lv_at hl 0 rfl) ?_
  refine r_get C hW (K := RX5) (T := TX5) (N := 6) (v := .ref (A (b + 87))) 0 0 4 rfl rfl rfl inX5_errorPosition_X5 (by decide) (List.mem_of_getElem? (i := 1) rfl) rfl rfl dX5_errorPosition_1 ?_
  obtain ⟨t1, h2, h⟩ := q_b h
  refine r_cVi C hW (nA := 0) (As := []) (rest := []) (c_X2_firstError l g A (b + 87) x.2.2.2.2.1 _ h2) gX5_errorPosition_X2_firstError rfl ⟨rfl, wo_X2_firstError⟩ (rmk hR rfl rfl) rfl rfl rfl rfl hl.1 (Nat.le_of_ble_eq_true rfl) rz dX5_errorPosition_4 (n := 19) (is := [15, 16]) (rs := [0, 1, 2, 3, 4, 5, 6, 7, 8, 9, 10, 11, 12, 13, 14, 17, 18]) (bs' := [[(A b, .inr (5, [.ref (A (b + 1)), .ref (A (b + 13)), .int x.2.2.1, .ref (A (b + 25)), .ref (A (b + 87)), .ref (A (b + 89))]))], [(A (b + 1), .inr (3, [.ref (A (b + 1 + 1)), .ref (A (b + 1 + 4)), .ref (A (b + 1 + 7)), .ref (A (b + 1 + 10)), .ref (A (b + 1 + 11)), .int x.1.2.2.2.2.2.1, .int x.1.2.2.2.2.2.2.1, .int x.1.2.2.2.2.2.2.2.1, .int x.1.2.2.2.2.2.2.2.2.1, .int x.1.2.2.2.2.2.2.2.2.2]))], wX4 g A (b + 1 + 1) x.1.1, wX4 g A (b + 1 + 4) x.1.2.1, wX4 g A (b + 1 + 7) x.1.2.2.1, [(A (b + 1 + 10), .inl (gI g, 3, .inl x.1.2.2.2.1))], [(A (b + 1 + 11), .inl (gI g, 2, .inl x.1.2.2.2.2.1))], wX3 g A (b + 13) x.2.1, [(A (b + 25), .inr (1, [.ref (A (b + 25 + 1)), .int x.2.2.2.1.2.1, .int x.2.2.2.1.2.2]))], [(A (b + 25 + 1), .inl (gR g, 5, .inr (.inr (.inr (.inr (fun k => some (A (b + 25 + 2 + 12 * k))))))))], wX3 g A (b + 25 + 2) (x.2.2.2.1.1 0), wX3 g A (b + 25 + 14) (x.2.2.2.1.1 1), wX3 g A (b + 25 + 26) (x.2.2.2.1.1 2), wX3 g A (b + 25 + 38) (x.2.2.2.1.1 3), wX3 g A (b + 25 + 50) (x.2.2.2.1.1 4), [(A (b + 87), .inr (2, [.ref (A (b + 87 + 1)), .int x.2.2.2.2.1.2]))], [(A (b + 87 + 1), .inl (gC g, 70, .inl x.2.2.2.2.1.1))], [(A (b + 89), .inr (0, [.ref (A (b + 89 + 1))]))], [(A (b + 89 + 1), .inl (gI g, 3, .inl x.2.2.2.2.2))]]) rfl rfl pm_35 rfl rfl (pk2 (rl := [[(A b, .inr (5, [.ref (A (b + 1)), .ref (A (b + 13)), .int x.2.2.1, .ref (A (b + 25)), .ref (A (b + 87)), .ref (A (b + 89))]))], [(A (b + 1), .inr (3, [.ref (A (b + 1 + 1)), .ref (A (b + 1 + 4)), .ref (A (b + 1 + 7)), .ref (A (b + 1 + 10)), .ref (A (b + 1 + 11)), .int x.1.2.2.2.2.2.1, .int x.1.2.2.2.2.2.2.1, .int x.1.2.2.2.2.2.2.2.1, .int x.1.2.2.2.2.2.2.2.2.1, .int x.1.2.2.2.2.2.2.2.2.2]))], wX4 g A (b + 1 + 1) x.1.1, wX4 g A (b + 1 + 4) x.1.2.1, wX4 g A (b + 1 + 7) x.1.2.2.1, [(A (b + 1 + 10), .inl (gI g, 3, .inl x.1.2.2.2.1))], [(A (b + 1 + 11), .inl (gI g, 2, .inl x.1.2.2.2.2.1))], wX3 g A (b + 13) x.2.1, [(A (b + 25), .inr (1, [.ref (A (b + 25 + 1)), .int x.2.2.2.1.2.1, .int x.2.2.2.1.2.2]))], [(A (b + 25 + 1), .inl (gR g, 5, .inr (.inr (.inr (.inr (fun k => some (A (b + 25 + 2 + 12 * k))))))))], wX3 g A (b + 25 + 2) (x.2.2.2.1.1 0), wX3 g A (b + 25 + 14) (x.2.2.2.1.1 1), wX3 g A (b + 25 + 26) (x.2.2.2.1.1 2), wX3 g A (b + 25 + 38) (x.2.2.2.1.1 3), wX3 g A (b + 25 + 50) (x.2.2.2.1.1 4), [(A (b + 89), .inr (0, [.ref (A (b + 89 + 1))]))], [(A (b + 89 + 1), .inl (gI g, 3, .inl x.2.2.2.2.2))]]) rfl rfl) (fun H locs hW => ?_)
  cases h
  exact E _ _ _ _ _ hW rfl rfl dX5_errorPosition_7
def f_X5_orderError (x : TX5s) (p1 : Int32) (p2 : Int32) (p3 : Int32) (p4 : Int32) : Option (Int32) :=
if p1 = 97 then (
(f_X5_arrowError x p2 p3 p4).bind fun t2 =>
some t2)
else if p1 = 100 then (
some 0)
else if p1 = 108 then (
(f_X5_placeError p2 2 p3 p4 4).bind fun t6 =>
some t6)
else if p1 = 110 then (
(f_X5_nightError x p2 p3).bind fun t9 =>
some t9)
else if p1 = 119 then (
(f_X5_placeError p2 3 p3 p4 4).bind fun t12 =>
some t12)
else (
some (-5))
theorem wo_X5_orderError : wordsOk yX5_orderError 4 := by decide +kernel
set_option maxHeartbeats 4000000 in
set_option maxRecDepth 100000 in
theorem c_X5_orderError (l : Launch) (g : GG) (A : Nat → Nat) (b : Nat) (x : TX5s) (p1 : Int32) (p2 : Int32) (p3 : Int32) (p4 : Int32) (r : Int32) (h : f_X5_orderError x p1 p2 p3 p4 = some r) : CI l yX5_orderError wsX5_orderError 4 100 g [.ref (A b), .int p1, .int p2, .int p3, .int p4] (wX5 g A b x) r (wX5 g A b x) := by
  refine CI.mk (own := RX5) (by decide) rfl rfl (Nat.le_of_ble_eq_true rfl) ?_
  intro p e R s m args below meth c Z Q C E hR H hW ls hl
  have hx := C.1.1
  have hb := C.1.2.1
  have hown := C.1.2.2.2.1
  replace hW : WdG g Z s.heap H [] [[(A b, .inr (5, [.ref (A (b + 1)), .ref (A (b + 13)), .int x.2.2.1, .ref (A (b + 25)), .ref (A (b + 87)), .ref (A (b + 89))]))], [(A (b + 1), .inr (3, [.ref (A (b + 1 + 1)), .ref (A (b + 1 + 4)), .ref (A (b + 1 + 7)), .ref (A (b + 1 + 10)), .ref (A (b + 1 + 11)), .int x.1.2.2.2.2.2.1, .int x.1.2.2.2.2.2.2.1, .int x.1.2.2.2.2.2.2.2.1, .int x.1.2.2.2.2.2.2.2.2.1, .int x.1.2.2.2.2.2.2.2.2.2]))], wX4 g A (b + 1 + 1) x.1.1, wX4 g A (b + 1 + 4) x.1.2.1, wX4 g A (b + 1 + 7) x.1.2.2.1, [(A (b + 1 + 10), .inl (gI g, 3, .inl x.1.2.2.2.1))], [(A (b + 1 + 11), .inl (gI g, 2, .inl x.1.2.2.2.2.1))], wX3 g A (b + 13) x.2.1, [(A (b + 25), .inr (1, [.ref (A (b + 25 + 1)), .int x.2.2.2.1.2.1, .int x.2.2.2.1.2.2]))], [(A (b + 25 + 1), .inl (gR g, 5, .inr (.inr (.inr (.inr (fun k => some (A (b + 25 + 2 + 12 * k))))))))], wX3 g A (b + 25 + 2) (x.2.2.2.1.1 0), wX3 g A (b + 25 + 14) (x.2.2.2.1.1 1), wX3 g A (b + 25 + 26) (x.2.2.2.1.1 2), wX3 g A (b + 25 + 38) (x.2.2.2.1.1 3), wX3 g A (b + 25 + 50) (x.2.2.2.1.1 4), [(A (b + 87), .inr (2, [.ref (A (b + 87 + 1)), .int x.2.2.2.2.1.2]))], [(A (b + 87 + 1), .inl (gC g, 70, .inl x.2.2.2.2.1.1))], [(A (b + 89), .inr (0, [.ref (A (b + 89 + 1))]))], [(A (b + 89 + 1), .inl (gI g, 3, .inl x.2.2.2.2.2))]] := hW.re rfl
  replace hl : lv_has ls 5 [(0, .ref (A b)), (1, .int p1), (2, .int p2), (3, .int p3), (4, .int p4)] := hl
  unfold f_X5_orderError at h
  refine lv_iload_n hx hb dX5_orderError_0 rfl (lv_at hl 1 rfl) ?_
  by_cases e1 : p1 = 97
  · replace h := q_t e1 h
    refine lv_lookup (off := 51) (tgt := 52) hx hb dX5_orderError_1 (by decide) (sw_eq e1 rfl) (by decide) ?_
    refine lv_aload_n hx hb dX5_orderError_52 rfl (lv_at hl 0 rfl) ?_
    refine lv_iload_n hx hb dX5_orderError_53 rfl (lv_at hl 2 rfl) ?_
    refine lv_iload_n hx hb dX5_orderError_54 rfl (lv_at hl 3 rfl) ?_
    refine lv_iload hx hb dX5_orderError_55 (lv_at hl 4 rfl) ?_
    obtain ⟨t2, h3, h⟩ := q_b h
    refine r_cVi C hW (nA := 3) (As := [.int p2, .int p3, .int p4]) (rest := []) (c_X5_arrowError l g A b x p2 p3 p4 _ h3) gX5_orderError_X5_arrowError rfl ⟨rfl, wo_X5_arrowError⟩ (rmk hR rfl rfl) rfl rfl rfl rfl hl.1 (Nat.le_of_ble_eq_true rfl) rz dX5_orderError_57 (n := 19) (is := [0, 1, 2, 3, 4, 5, 6, 7, 8, 9, 10, 11, 12, 13, 14, 15, 16, 17, 18]) (rs := []) (bs' := [[(A b, .inr (5, [.ref (A (b + 1)), .ref (A (b + 13)), .int x.2.2.1, .ref (A (b + 25)), .ref (A (b + 87)), .ref (A (b + 89))]))], [(A (b + 1), .inr (3, [.ref (A (b + 1 + 1)), .ref (A (b + 1 + 4)), .ref (A (b + 1 + 7)), .ref (A (b + 1 + 10)), .ref (A (b + 1 + 11)), .int x.1.2.2.2.2.2.1, .int x.1.2.2.2.2.2.2.1, .int x.1.2.2.2.2.2.2.2.1, .int x.1.2.2.2.2.2.2.2.2.1, .int x.1.2.2.2.2.2.2.2.2.2]))], wX4 g A (b + 1 + 1) x.1.1, wX4 g A (b + 1 + 4) x.1.2.1, wX4 g A (b + 1 + 7) x.1.2.2.1, [(A (b + 1 + 10), .inl (gI g, 3, .inl x.1.2.2.2.1))], [(A (b + 1 + 11), .inl (gI g, 2, .inl x.1.2.2.2.2.1))], wX3 g A (b + 13) x.2.1, [(A (b + 25), .inr (1, [.ref (A (b + 25 + 1)), .int x.2.2.2.1.2.1, .int x.2.2.2.1.2.2]))], [(A (b + 25 + 1), .inl (gR g, 5, .inr (.inr (.inr (.inr (fun k => some (A (b + 25 + 2 + 12 * k))))))))], wX3 g A (b + 25 + 2) (x.2.2.2.1.1 0), wX3 g A (b + 25 + 14) (x.2.2.2.1.1 1), wX3 g A (b + 25 + 26) (x.2.2.2.1.1 2), wX3 g A (b + 25 + 38) (x.2.2.2.1.1 3), wX3 g A (b + 25 + 50) (x.2.2.2.1.1 4), [(A (b + 87), .inr (2, [.ref (A (b + 87 + 1)), .int x.2.2.2.2.1.2]))], [(A (b + 87 + 1), .inl (gC g, 70, .inl x.2.2.2.2.1.1))], [(A (b + 89), .inr (0, [.ref (A (b + 89 + 1))]))], [(A (b + 89 + 1), .inl (gI g, 3, .inl x.2.2.2.2.2))]]) rfl rfl pm_30 rfl rfl rfl (fun H locs hW => ?_)
    cases h
    exact E _ _ _ _ _ hW rfl rfl dX5_orderError_60
  · replace h := q_f e1 h
    by_cases e4 : p1 = 100
    · replace h := q_t e4 h
      refine lv_lookup (off := 87) (tgt := 88) hx hb dX5_orderError_1 (by decide) (sw_ne e1 rfl (sw_eq e4 rfl)) (by decide) ?_
      refine lv_iconst (v := 0) hx hb dX5_orderError_88 (by decide) ?_
      cases h
      exact E _ _ _ _ _ hW rfl rfl dX5_orderError_89
    · replace h := q_f e4 h
      by_cases e5 : p1 = 108
      · replace h := q_t e5 h
        refine lv_lookup (off := 70) (tgt := 71) hx hb dX5_orderError_1 (by decide) (sw_ne e1 rfl (sw_ne e4 rfl (sw_eq e5 rfl))) (by decide) ?_
        refine lv_iload_n hx hb dX5_orderError_71 rfl (lv_at hl 2 rfl) ?_
        refine lv_iconst (v := 2) hx hb dX5_orderError_72 (by decide) ?_
        refine lv_iload_n hx hb dX5_orderError_73 rfl (lv_at hl 3 rfl) ?_
        refine lv_iload hx hb dX5_orderError_74 (lv_at hl 4 rfl) ?_
        refine lv_iconst (v := 4) hx hb dX5_orderError_76 (by decide) ?_
        obtain ⟨t6, h7, h⟩ := q_b h
        refine r_cSi C hW (nA := 5) (As := [.int p2, .int 2, .int p3, .int p4, .int 4]) (rest := []) (c_X5_placeError l g p2 2 p3 p4 4 _ h7) gX5_orderError_X5_placeError rfl wo_X5_placeError (rmk hR rfl rfl) rfl rfl hl.1 (Nat.le_of_ble_eq_true rfl) rz dX5_orderError_77 (n := 19) (is := []) (rs := [0, 1, 2, 3, 4, 5, 6, 7, 8, 9, 10, 11, 12, 13, 14, 15, 16, 17, 18]) (bs' := [[(A b, .inr (5, [.ref (A (b + 1)), .ref (A (b + 13)), .int x.2.2.1, .ref (A (b + 25)), .ref (A (b + 87)), .ref (A (b + 89))]))], [(A (b + 1), .inr (3, [.ref (A (b + 1 + 1)), .ref (A (b + 1 + 4)), .ref (A (b + 1 + 7)), .ref (A (b + 1 + 10)), .ref (A (b + 1 + 11)), .int x.1.2.2.2.2.2.1, .int x.1.2.2.2.2.2.2.1, .int x.1.2.2.2.2.2.2.2.1, .int x.1.2.2.2.2.2.2.2.2.1, .int x.1.2.2.2.2.2.2.2.2.2]))], wX4 g A (b + 1 + 1) x.1.1, wX4 g A (b + 1 + 4) x.1.2.1, wX4 g A (b + 1 + 7) x.1.2.2.1, [(A (b + 1 + 10), .inl (gI g, 3, .inl x.1.2.2.2.1))], [(A (b + 1 + 11), .inl (gI g, 2, .inl x.1.2.2.2.2.1))], wX3 g A (b + 13) x.2.1, [(A (b + 25), .inr (1, [.ref (A (b + 25 + 1)), .int x.2.2.2.1.2.1, .int x.2.2.2.1.2.2]))], [(A (b + 25 + 1), .inl (gR g, 5, .inr (.inr (.inr (.inr (fun k => some (A (b + 25 + 2 + 12 * k))))))))], wX3 g A (b + 25 + 2) (x.2.2.2.1.1 0), wX3 g A (b + 25 + 14) (x.2.2.2.1.1 1), wX3 g A (b + 25 + 26) (x.2.2.2.1.1 2), wX3 g A (b + 25 + 38) (x.2.2.2.1.1 3), wX3 g A (b + 25 + 50) (x.2.2.2.1.1 4), [(A (b + 87), .inr (2, [.ref (A (b + 87 + 1)), .int x.2.2.2.2.1.2]))], [(A (b + 87 + 1), .inl (gC g, 70, .inl x.2.2.2.2.1.1))], [(A (b + 89), .inr (0, [.ref (A (b + 89 + 1))]))], [(A (b + 89 + 1), .inl (gI g, 3, .inl x.2.2.2.2.2))]]) rfl rfl pm_27 rfl rfl (pk2 (rl := [[(A b, .inr (5, [.ref (A (b + 1)), .ref (A (b + 13)), .int x.2.2.1, .ref (A (b + 25)), .ref (A (b + 87)), .ref (A (b + 89))]))], [(A (b + 1), .inr (3, [.ref (A (b + 1 + 1)), .ref (A (b + 1 + 4)), .ref (A (b + 1 + 7)), .ref (A (b + 1 + 10)), .ref (A (b + 1 + 11)), .int x.1.2.2.2.2.2.1, .int x.1.2.2.2.2.2.2.1, .int x.1.2.2.2.2.2.2.2.1, .int x.1.2.2.2.2.2.2.2.2.1, .int x.1.2.2.2.2.2.2.2.2.2]))], wX4 g A (b + 1 + 1) x.1.1, wX4 g A (b + 1 + 4) x.1.2.1, wX4 g A (b + 1 + 7) x.1.2.2.1, [(A (b + 1 + 10), .inl (gI g, 3, .inl x.1.2.2.2.1))], [(A (b + 1 + 11), .inl (gI g, 2, .inl x.1.2.2.2.2.1))], wX3 g A (b + 13) x.2.1, [(A (b + 25), .inr (1, [.ref (A (b + 25 + 1)), .int x.2.2.2.1.2.1, .int x.2.2.2.1.2.2]))], [(A (b + 25 + 1), .inl (gR g, 5, .inr (.inr (.inr (.inr (fun k => some (A (b + 25 + 2 + 12 * k))))))))], wX3 g A (b + 25 + 2) (x.2.2.2.1.1 0), wX3 g A (b + 25 + 14) (x.2.2.2.1.1 1), wX3 g A (b + 25 + 26) (x.2.2.2.1.1 2), wX3 g A (b + 25 + 38) (x.2.2.2.1.1 3), wX3 g A (b + 25 + 50) (x.2.2.2.1.1 4), [(A (b + 87), .inr (2, [.ref (A (b + 87 + 1)), .int x.2.2.2.2.1.2]))], [(A (b + 87 + 1), .inl (gC g, 70, .inl x.2.2.2.2.1.1))], [(A (b + 89), .inr (0, [.ref (A (b + 89 + 1))]))], [(A (b + 89 + 1), .inl (gI g, 3, .inl x.2.2.2.2.2))]]) rfl rfl) (fun H locs hW => ?_)
        cases h
        exact E _ _ _ _ _ hW rfl rfl dX5_orderError_80
      · replace h := q_f e5 h
        by_cases e8 : p1 = 110
        · replace h := q_t e8 h
          refine lv_lookup (off := 80) (tgt := 81) hx hb dX5_orderError_1 (by decide) (sw_ne e1 rfl (sw_ne e4 rfl (sw_ne e5 rfl (sw_eq e8 rfl)))) (by decide) ?_
          refine lv_aload_n hx hb dX5_orderError_81 rfl (lv_at hl 0 rfl) ?_
          refine lv_iload_n hx hb dX5_orderError_82 rfl (lv_at hl 2 rfl) ?_
          refine lv_iload_n hx hb dX5_orderError_83 rfl (lv_at hl 3 rfl) ?_
          obtain ⟨t9, h10, h⟩ := q_b h
          refine r_cVi C hW (nA := 2) (As := [.int p2, .int p3]) (rest := []) (c_X5_nightError l g A b x p2 p3 _ h10) gX5_orderError_X5_nightError rfl ⟨rfl, wo_X5_nightError⟩ (rmk hR rfl rfl) rfl rfl rfl rfl hl.1 (Nat.le_of_ble_eq_true rfl) rz dX5_orderError_84 (n := 19) (is := [0, 1, 2, 3, 4, 5, 6, 7, 8, 9, 10, 11, 12, 13, 14, 15, 16, 17, 18]) (rs := []) (bs' := [[(A b, .inr (5, [.ref (A (b + 1)), .ref (A (b + 13)), .int x.2.2.1, .ref (A (b + 25)), .ref (A (b + 87)), .ref (A (b + 89))]))], [(A (b + 1), .inr (3, [.ref (A (b + 1 + 1)), .ref (A (b + 1 + 4)), .ref (A (b + 1 + 7)), .ref (A (b + 1 + 10)), .ref (A (b + 1 + 11)), .int x.1.2.2.2.2.2.1, .int x.1.2.2.2.2.2.2.1, .int x.1.2.2.2.2.2.2.2.1, .int x.1.2.2.2.2.2.2.2.2.1, .int x.1.2.2.2.2.2.2.2.2.2]))], wX4 g A (b + 1 + 1) x.1.1, wX4 g A (b + 1 + 4) x.1.2.1, wX4 g A (b + 1 + 7) x.1.2.2.1, [(A (b + 1 + 10), .inl (gI g, 3, .inl x.1.2.2.2.1))], [(A (b + 1 + 11), .inl (gI g, 2, .inl x.1.2.2.2.2.1))], wX3 g A (b + 13) x.2.1, [(A (b + 25), .inr (1, [.ref (A (b + 25 + 1)), .int x.2.2.2.1.2.1, .int x.2.2.2.1.2.2]))], [(A (b + 25 + 1), .inl (gR g, 5, .inr (.inr (.inr (.inr (fun k => some (A (b + 25 + 2 + 12 * k))))))))], wX3 g A (b + 25 + 2) (x.2.2.2.1.1 0), wX3 g A (b + 25 + 14) (x.2.2.2.1.1 1), wX3 g A (b + 25 + 26) (x.2.2.2.1.1 2), wX3 g A (b + 25 + 38) (x.2.2.2.1.1 3), wX3 g A (b + 25 + 50) (x.2.2.2.1.1 4), [(A (b + 87), .inr (2, [.ref (A (b + 87 + 1)), .int x.2.2.2.2.1.2]))], [(A (b + 87 + 1), .inl (gC g, 70, .inl x.2.2.2.2.1.1))], [(A (b + 89), .inr (0, [.ref (A (b + 89 + 1))]))], [(A (b + 89 + 1), .inl (gI g, 3, .inl x.2.2.2.2.2))]]) rfl rfl pm_30 rfl rfl rfl (fun H locs hW => ?_)
          cases h
          exact E _ _ _ _ _ hW rfl rfl dX5_orderError_87
        · replace h := q_f e8 h
          by_cases e11 : p1 = 119
          · replace h := q_t e11 h
            refine lv_lookup (off := 60) (tgt := 61) hx hb dX5_orderError_1 (by decide) (sw_ne e1 rfl (sw_ne e4 rfl (sw_ne e5 rfl (sw_ne e8 rfl (sw_eq e11 rfl))))) (by decide) ?_
            refine lv_iload_n hx hb dX5_orderError_61 rfl (lv_at hl 2 rfl) ?_
            refine lv_iconst (v := 3) hx hb dX5_orderError_62 (by decide) ?_
            refine lv_iload_n hx hb dX5_orderError_63 rfl (lv_at hl 3 rfl) ?_
            refine lv_iload hx hb dX5_orderError_64 (lv_at hl 4 rfl) ?_
            refine lv_iconst (v := 4) hx hb dX5_orderError_66 (by decide) ?_
            obtain ⟨t12, h13, h⟩ := q_b h
            refine r_cSi C hW (nA := 5) (As := [.int p2, .int 3, .int p3, .int p4, .int 4]) (rest := []) (c_X5_placeError l g p2 3 p3 p4 4 _ h13) gX5_orderError_X5_placeError rfl wo_X5_placeError (rmk hR rfl rfl) rfl rfl hl.1 (Nat.le_of_ble_eq_true rfl) rz dX5_orderError_67 (n := 19) (is := []) (rs := [0, 1, 2, 3, 4, 5, 6, 7, 8, 9, 10, 11, 12, 13, 14, 15, 16, 17, 18]) (bs' := [[(A b, .inr (5, [.ref (A (b + 1)), .ref (A (b + 13)), .int x.2.2.1, .ref (A (b + 25)), .ref (A (b + 87)), .ref (A (b + 89))]))], [(A (b + 1), .inr (3, [.ref (A (b + 1 + 1)), .ref (A (b + 1 + 4)), .ref (A (b + 1 + 7)), .ref (A (b + 1 + 10)), .ref (A (b + 1 + 11)), .int x.1.2.2.2.2.2.1, .int x.1.2.2.2.2.2.2.1, .int x.1.2.2.2.2.2.2.2.1, .int x.1.2.2.2.2.2.2.2.2.1, .int x.1.2.2.2.2.2.2.2.2.2]))], wX4 g A (b + 1 + 1) x.1.1, wX4 g A (b + 1 + 4) x.1.2.1, wX4 g A (b + 1 + 7) x.1.2.2.1, [(A (b + 1 + 10), .inl (gI g, 3, .inl x.1.2.2.2.1))], [(A (b + 1 + 11), .inl (gI g, 2, .inl x.1.2.2.2.2.1))], wX3 g A (b + 13) x.2.1, [(A (b + 25), .inr (1, [.ref (A (b + 25 + 1)), .int x.2.2.2.1.2.1, .int x.2.2.2.1.2.2]))], [(A (b + 25 + 1), .inl (gR g, 5, .inr (.inr (.inr (.inr (fun k => some (A (b + 25 + 2 + 12 * k))))))))], wX3 g A (b + 25 + 2) (x.2.2.2.1.1 0), wX3 g A (b + 25 + 14) (x.2.2.2.1.1 1), wX3 g A (b + 25 + 26) (x.2.2.2.1.1 2), wX3 g A (b + 25 + 38) (x.2.2.2.1.1 3), wX3 g A (b + 25 + 50) (x.2.2.2.1.1 4), [(A (b + 87), .inr (2, [.ref (A (b + 87 + 1)), .int x.2.2.2.2.1.2]))], [(A (b + 87 + 1), .inl (gC g, 70, .inl x.2.2.2.2.1.1))], [(A (b + 89), .inr (0, [.ref (A (b + 89 + 1))]))], [(A (b + 89 + 1), .inl (gI g, 3, .inl x.2.2.2.2.2))]]) rfl rfl pm_27 rfl rfl (pk2 (rl := [[(A b, .inr (5, [.ref (A (b + 1)), .ref (A (b + 13)), .int x.2.2.1, .ref (A (b + 25)), .ref (A (b + 87)), .ref (A (b + 89))]))], [(A (b + 1), .inr (3, [.ref (A (b + 1 + 1)), .ref (A (b + 1 + 4)), .ref (A (b + 1 + 7)), .ref (A (b + 1 + 10)), .ref (A (b + 1 + 11)), .int x.1.2.2.2.2.2.1, .int x.1.2.2.2.2.2.2.1, .int x.1.2.2.2.2.2.2.2.1, .int x.1.2.2.2.2.2.2.2.2.1, .int x.1.2.2.2.2.2.2.2.2.2]))], wX4 g A (b + 1 + 1) x.1.1, wX4 g A (b + 1 + 4) x.1.2.1, wX4 g A (b + 1 + 7) x.1.2.2.1, [(A (b + 1 + 10), .inl (gI g, 3, .inl x.1.2.2.2.1))], [(A (b + 1 + 11), .inl (gI g, 2, .inl x.1.2.2.2.2.1))], wX3 g A (b + 13) x.2.1, [(A (b + 25), .inr (1, [.ref (A (b + 25 + 1)), .int x.2.2.2.1.2.1, .int x.2.2.2.1.2.2]))], [(A (b + 25 + 1), .inl (gR g, 5, .inr (.inr (.inr (.inr (fun k => some (A (b + 25 + 2 + 12 * k))))))))], wX3 g A (b + 25 + 2) (x.2.2.2.1.1 0), wX3 g A (b + 25 + 14) (x.2.2.2.1.1 1), wX3 g A (b + 25 + 26) (x.2.2.2.1.1 2), wX3 g A (b + 25 + 38) (x.2.2.2.1.1 3), wX3 g A (b + 25 + 50) (x.2.2.2.1.1 4), [(A (b + 87), .inr (2, [.ref (A (b + 87 + 1)), .int x.2.2.2.2.1.2]))], [(A (b + 87 + 1), .inl (gC g, 70, .inl x.2.2.2.2.1.1))], [(A (b + 89), .inr (0, [.ref (A (b + 89 + 1))]))], [(A (b + 89 + 1), .inl (gI g, 3, .inl x.2.2.2.2.2))]]) rfl rfl) (fun H locs hW => ?_)
            cases h
            exact E _ _ _ _ _ hW rfl rfl dX5_orderError_70
          · replace h := q_f e11 h
            refine lv_lookup (off := 89) (tgt := 90) hx hb dX5_orderError_1 (by decide) (sw_ne e1 rfl (sw_ne e4 rfl (sw_ne e5 rfl (sw_ne e8 rfl (sw_ne e11 rfl (rfl)))))) (by decide) ?_
            refine lv_bipush (v := (-5)) hx hb dX5_orderError_90 (by decide) ?_
            cases h
            exact E _ _ _ _ _ hW rfl rfl dX5_orderError_92
