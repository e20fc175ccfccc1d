def f_X5_restore (x : TX5s) : Option (Int32 × TX5s) :=
if x.2.2.1 = 0 then (
some ((-3), x))
else (
(f_X5_recordedRoad x).bind fun t2 =>
(f_X3_copyFrom t2.1 t2.2.1).bind fun t4 =>
some (t4.2.2.2.2.2.2.1, (t4, t2.2.1, t2.2.2.1, t2.2.2.2.1, t2.2.2.2.2.1, t2.2.2.2.2.2)))
theorem wo_X5_restore : wordsOk yX5_restore 0 := by decide +kernel
theorem inX5_restore_X3 : ∀ w ∈ wsX30, w ∈ wsX5_restore := fun _ h => List.mem_cons_of_mem _ (List.mem_append_left _ (List.mem_append_left _ (List.mem_append_right _ h)))
theorem inX5_restore_X5 : ∀ w ∈ wsX50, w ∈ wsX5_restore := fun _ h => List.mem_cons_of_mem _ (List.mem_append_left _ (List.mem_append_left _ (List.mem_append_left _ (List.mem_append_right _ h))))
set_option maxHeartbeats 4000000 in
set_option maxRecDepth 100000 in
theorem c_X5_restore (l : Launch) (g : GG) (A : Nat → Nat) (b : Nat) (x : TX5s) (r : Int32) (x' : TX5s) (h : f_X5_restore x = some (r, x')) : CI l yX5_restore wsX5_restore 4 122 g [.ref (A b)] (wX5 g A b x) r (wX5 g A b x') := by
  refine CI.mk (own := RX5) (by decide) rfl rfl (Nat.le_of_ble_eq_true rfl) ?_
  intro p e R s m args below meth c Z Q C E hR H hW ls hl
  have hx := C.1.1
  have hb := C.1.2.1
  have hown := C.1.2.2.2.1
  replace hW : WdG g Z s.heap H [] [[(A b, .inr (5, [.ref (A (b + 1)), .ref (A (b + 13)), .int x.2.2.1, .ref (A (b + 25)), .ref (A (b + 87)), .ref (A (b + 89))]))], [(A (b + 1), .inr (3, [.ref (A (b + 1 + 1)), .ref (A (b + 1 + 4)), .ref (A (b + 1 + 7)), .ref (A (b + 1 + 10)), .ref (A (b + 1 + 11)), .int x.1.2.2.2.2.2.1, .int x.1.2.2.2.2.2.2.1, .int x.1.2.2.2.2.2.2.2.1, .int x.1.2.2.2.2.2.2.2.2.1, .int x.1.2.2.2.2.2.2.2.2.2]))], wX4 g A (b + 1 + 1) x.1.1, wX4 g A (b + 1 + 4) x.1.2.1, wX4 g A (b + 1 + 7) x.1.2.2.1, [(A (b + 1 + 10), .inl (gI g, 3, .inl x.1.2.2.2.1))], [(A (b + 1 + 11), .inl (gI g, 2, .inl x.1.2.2.2.2.1))], wX3 g A (b + 13) x.2.1, [(A (b + 25), .inr (1, [.ref (A (b + 25 + 1)), .int x.2.2.2.1.2.1, .int x.2.2.2.1.2.2]))], [(A (b + 25 + 1), .inl (gR g, 5, .inr (.inr (.inr (.inr (fun k => some (A (b + 25 + 2 + 12 * k))))))))], wX3 g A (b + 25 + 2) (x.2.2.2.1.1 0), wX3 g A (b + 25 + 14) (x.2.2.2.1.1 1), wX3 g A (b + 25 + 26) (x.2.2.2.1.1 2), wX3 g A (b + 25 + 38) (x.2.2.2.1.1 3), wX3 g A (b + 25 + 50) (x.2.2.2.1.1 4), [(A (b + 87), .inr (2, [.ref (A (b + 87 + 1)), .int x.2.2.2.2.1.2]))], [(A (b + 87 + 1), .inl (gC g, 70, .inl x.2.2.2.2.1.1))], [(A (b + 89), .inr (0, [.ref (A (b + 89 + 1))]))], [(A (b + 89 + 1), .inl (gI g, 3, .inl x.2.2.2.2.2))]] := hW.re rfl
  replace hl : lv_has ls 1 [(0, .ref (A b))] := hl
  unfold f_X5_restore at h
  refine lv_aload_n hx hb dX5_restore_0 rfl (lv_at hl 0 rfl) ?_
  refine r_get C hW (K := RX5) (T := TX5) (N := 6) (v := .int x.2.2.1) 0 0 2 rfl rfl rfl inX5_restore_X5 (by decide) (List.mem_of_getElem? (i := 1) rfl) rfl rfl dX5_restore_1 ?_
  refine lv_if_ne (tgt := 10) hx hb dX5_restore_4 (by decide) (fun e1 => ?_) (fun e1 => ?_)
  · replace h := q_f e1 h
    refine lv_aload_n hx hb dX5_restore_10 rfl (lv_at hl 0 rfl) ?_
    obtain ⟨t2, h3, h⟩ := q_b h
    refine r_cVr C hW (nA := 0) (As := []) (rest := []) (c_X5_recordedRoad l g A b x _ h3) gX5_restore_X5_recordedRoad rfl ⟨rfl, wo_X5_recordedRoad⟩ (rmk hR rfl rfl) rfl rfl rfl rfl hl.1 (Nat.le_of_ble_eq_true rfl) rz dX5_restore_11 (n := 19) (is := [0, 1, 2, 3, 4, 5, 6, 7, 8, 9, 10, 11, 12, 13, 14, 15, 16, 17, 18]) (rs := []) (bs' := [[(A b, .inr (5, [.ref (A (b + 1)), .ref (A (b + 13)), .int t2.2.2.1, .ref (A (b + 25)), .ref (A (b + 87)), .ref (A (b + 89))]))], [(A (b + 1), .inr (3, [.ref (A (b + 1 + 1)), .ref (A (b + 1 + 4)), .ref (A (b + 1 + 7)), .ref (A (b + 1 + 10)), .ref (A (b + 1 + 11)), .int t2.1.2.2.2.2.2.1, .int t2.1.2.2.2.2.2.2.1, .int t2.1.2.2.2.2.2.2.2.1, .int t2.1.2.2.2.2.2.2.2.2.1, .int t2.1.2.2.2.2.2.2.2.2.2]))], wX4 g A (b + 1 + 1) t2.1.1, wX4 g A (b + 1 + 4) t2.1.2.1, wX4 g A (b + 1 + 7) t2.1.2.2.1, [(A (b + 1 + 10), .inl (gI g, 3, .inl t2.1.2.2.2.1))], [(A (b + 1 + 11), .inl (gI g, 2, .inl t2.1.2.2.2.2.1))], wX3 g A (b + 13) t2.2.1, [(A (b + 25), .inr (1, [.ref (A (b + 25 + 1)), .int t2.2.2.2.1.2.1, .int t2.2.2.2.1.2.2]))], [(A (b + 25 + 1), .inl (gR g, 5, .inr (.inr (.inr (.inr (fun k => some (A (b + 25 + 2 + 12 * k))))))))], wX3 g A (b + 25 + 2) (t2.2.2.2.1.1 0), wX3 g A (b + 25 + 14) (t2.2.2.2.1.1 1), wX3 g A (b + 25 + 26) (t2.2.2.2.1.1 2), wX3 g A (b + 25 + 38) (t2.2.2.2.1.1 3), wX3 g A (b + 25 + 50) (t2.2.2.2.1.1 4), [(A (b + 87), .inr (2, [.ref (A (b + 87 + 1)), .int t2.2.2.2.2.1.2]))], [(A (b + 87 + 1), .inl (gC g, 70, .inl t2.2.2.2.2.1.1))], [(A (b + 89), .inr (0, [.ref (A (b + 89 + 1))]))], [(A (b + 89 + 1), .inl (gI g, 3, .inl t2.2.2.2.2.2))]]) rfl rfl pm_30 rfl rfl rfl (fun H locs hW => ?_)
    refine lv_aload_n hx hb dX5_restore_14 rfl (lv_at hl 0 rfl) ?_
    refine r_get C hW (K := RX5) (T := TX5) (N := 6) (v := .ref (A (b + 13))) 0 0 1 rfl rfl rfl inX5_restore_X5 (by decide) (List.mem_of_getElem? (i := 2) rfl) rfl rfl dX5_restore_15 ?_
    obtain ⟨t4, h5, h⟩ := q_b h
    refine r_cVv C hW (nA := 1) (As := [.ref (A (b + 13))]) (rest := []) (c_X3_copyFrom l g A (b + 1) A (b + 13) t2.1 t2.2.1 _ h5) gX5_restore_X3_copyFrom rfl ⟨rfl, wo_X3_copyFrom⟩ (rmk hR rfl rfl) rfl rfl rfl rfl hl.1 (Nat.le_of_ble_eq_true rfl) rz dX5_restore_18 (n := 19) (is := [1, 2, 3, 4, 5, 6, 7]) (rs := [0, 8, 9, 10, 11, 12, 13, 14, 15, 16, 17, 18]) (bs' := [[(A b, .inr (5, [.ref (A (b + 1)), .ref (A (b + 13)), .int t2.2.2.1, .ref (A (b + 25)), .ref (A (b + 87)), .ref (A (b + 89))]))], [(A (b + 1), .inr (3, [.ref (A (b + 1 + 1)), .ref (A (b + 1 + 4)), .ref (A (b + 1 + 7)), .ref (A (b + 1 + 10)), .ref (A (b + 1 + 11)), .int t4.2.2.2.2.2.1, .int t4.2.2.2.2.2.2.1, .int t4.2.2.2.2.2.2.2.1, .int t4.2.2.2.2.2.2.2.2.1, .int t4.2.2.2.2.2.2.2.2.2]))], wX4 g A (b + 1 + 1) t4.1, wX4 g A (b + 1 + 4) t4.2.1, wX4 g A (b + 1 + 7) t4.2.2.1, [(A (b + 1 + 10), .inl (gI g, 3, .inl t4.2.2.2.1))], [(A (b + 1 + 11), .inl (gI g, 2, .inl t4.2.2.2.2.1))], wX3 g A (b + 13) t2.2.1, [(A (b + 25), .inr (1, [.ref (A (b + 25 + 1)), .int t2.2.2.2.1.2.1, .int t2.2.2.2.1.2.2]))], [(A (b + 25 + 1), .inl (gR g, 5, .inr (.inr (.inr (.inr (fun k => some (A (b + 25 + 2 + 12 * k))))))))], wX3 g A (b + 25 + 2) (t2.2.2.2.1.1 0), wX3 g A (b + 25 + 14) (t2.2.2.2.1.1 1), wX3 g A (b + 25 + 26) (t2.2.2.2.1.1 2), wX3 g A (b + 25 + 38) (t2.2.2.2.1.1 3), wX3 g A (b + 25 + 50) (t2.2.2.2.1.1 4), [(A (b + 87), .inr (2, [.ref (A (b + 87 + 1)), .int t2.2.2.2.2.1.2]))], [(A (b + 87 + 1), .inl (gC g, 70, .inl t2.2.2.2.2.1.1))], [(A (b + 89), .inr (0, [.ref (A (b + 89 + 1))]))], [(A (b + 89 + 1), .inl (gI g, 3, .inl t2.2.2.2.2.2))]]) rfl rfl pm_37 rfl rfl (pk2 (rl := [[(A b, .inr (5, [.ref (A (b + 1)), .ref (A (b + 13)), .int t2.2.2.1, .ref (A (b + 25)), .ref (A (b + 87)), .ref (A (b + 89))]))], [(A (b + 25), .inr (1, [.ref (A (b + 25 + 1)), .int t2.2.2.2.1.2.1, .int t2.2.2.2.1.2.2]))], [(A (b + 25 + 1), .inl (gR g, 5, .inr (.inr (.inr (.inr (fun k => some (A (b + 25 + 2 + 12 * k))))))))], wX3 g A (b + 25 + 2) (t2.2.2.2.1.1 0), wX3 g A (b + 25 + 14) (t2.2.2.2.1.1 1), wX3 g A (b + 25 + 26) (t2.2.2.2.1.1 2), wX3 g A (b + 25 + 38) (t2.2.2.2.1.1 3), wX3 g A (b + 25 + 50) (t2.2.2.2.1.1 4), [(A (b + 87), .inr (2, [.ref (A (b + 87 + 1)), .int t2.2.2.2.2.1.2]))], [(A (b + 87 + 1), .inl (gC g, 70, .inl t2.2.2.2.2.1.1))], [(A (b + 89), .inr (0, [.ref (A (b + 89 + 1))]))], [(A (b + 89 + 1), .inl (gI g, 3, .inl t2.2.2.2.2.2))]]) rfl rfl) (fun H locs hW => ?_)
    refine lv_aload_n hx hb dX5_restore_21 rfl (lv_at hl 0 rfl) ?_
    refine r_get C hW (K := RX5) (T := TX5) (N := 6) (v := .ref (A (b + 1))) 0 0 0 rfl rfl rfl inX5_restore_X5 (by decide) (List.mem_of_getElem? (i := 3) rfl) rfl rfl dX5_restore_22 ?_
    refine r_getN C hW (K := RX3) (T := TX3) (N := 10) (v := .int t4.2.2.2.2.2.2.1) 1 0 6 rfl rfl rfl inX5_restore_X3 (by decide) (List.mem_of_getElem? (i := 4) rfl) rfl rfl dX5_restore_25 ?_
    cases h
    exact E _ _ _ _ _ hW rfl rfl dX5_restore_28
  · replace h := q_t e1 h
    refine lv_bipush (v := (-3)) hx hb dX5_restore_7 (by decide) ?_
    cases h
    exact E _ _ _ _ _ hW rfl rfl dX5_restore_9
