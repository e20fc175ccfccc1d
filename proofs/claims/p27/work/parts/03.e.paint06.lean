def f_X5_total (x : TX5s) (p1 : Int32) : Option (Int32) :=
if p1 < 0 then (
some (-2))
else if 14 < p1 then (
some (-2))
else if p1 = 0 then (
(f_X4_count x.1.1).bind fun t4 =>
some t4)
else if p1 = 1 then (
(f_X4_count x.1.2.1).bind fun t7 =>
some t7)
else if p1 = 2 then (
(f_X4_count x.1.2.2.1).bind fun t10 =>
some t10)
else if p1 = 3 then (
if (0 : Int32) < 0 ∨ 2 ≤ (0 : Int32).toNatClampNeg then none else
(f_X4_countFrom x.1.2.1 (x.1.2.2.2.2.1 (0 : Int32).toNatClampNeg)).bind fun t14 =>
some t14)
else if p1 = 4 then (
some x.1.2.2.2.2.2.1)
else if p1 = 5 then (
some x.1.2.2.2.2.2.2.1)
else if p1 = 6 then (
some x.1.2.2.2.2.2.2.2.1)
else if p1 = 7 then (
some x.1.2.2.2.2.2.2.2.2.1)
else if p1 = 8 then (
some x.1.2.2.2.2.2.2.2.2.2)
else if p1 = 9 then (
(f_X3_sumOfStrengths x.1).bind fun t22 =>
some t22)
else if p1 = 10 then (
if (0 : Int32) < 0 ∨ 3 ≤ (0 : Int32).toNatClampNeg then none else
some (x.1.2.2.2.1 (0 : Int32).toNatClampNeg))
else if p1 = 11 then (
if (1 : Int32) < 0 ∨ 3 ≤ (1 : Int32).toNatClampNeg then none else
some (x.1.2.2.2.1 (1 : Int32).toNatClampNeg))
else if p1 = 12 then (
if (2 : Int32) < 0 ∨ 3 ≤ (2 : Int32).toNatClampNeg then none else
some (x.1.2.2.2.1 (2 : Int32).toNatClampNeg))
else if p1 = 13 then (
if (0 : Int32) < 0 ∨ 2 ≤ (0 : Int32).toNatClampNeg then none else
some (x.1.2.2.2.2.1 (0 : Int32).toNatClampNeg))
else if p1 = 14 then (
if (1 : Int32) < 0 ∨ 2 ≤ (1 : Int32).toNatClampNeg then none else
some (x.1.2.2.2.2.1 (1 : Int32).toNatClampNeg))
else none
theorem wo_X5_total : wordsOk yX5_total 1 := by decide +kernel
theorem inX5_total_X3 : ∀ w ∈ wsX30, w ∈ wsX5_total := fun _ h => List.mem_cons_of_mem _ (List.mem_append_left _ (List.mem_append_right _ h))
theorem inX5_total_X5 : ∀ w ∈ wsX50, w ∈ wsX5_total := fun _ h => List.mem_cons_of_mem _ (List.mem_append_left _ (List.mem_append_left _ (List.mem_append_right _ h)))
set_option maxHeartbeats 4000000 in
set_option maxRecDepth 100000 in
theorem c_X5_total (l : Launch) (g : GG) (A : Nat → Nat) (b : Nat) (x : TX5s) (p1 : Int32) (r : Int32) (h : f_X5_total x p1 = some r) : CI l yX5_total wsX5_total 3 63 g [.ref (A b), .int p1] (wX5 g A b x) r (wX5 g A b x) := by
  refine CI.mk (own := RX5) (by decide) rfl rfl (Nat.le_of_ble_eq_true rfl) ?_
  intro p e R s m args below meth c Z Q C E hR H hW ls hl
  have hx := C.1.1
  have hb := C.1.2.1
  have hown := C.1.2.2.2.1
  replace hW : WdG g Z s.heap H [] [[(A b, .inr (5, [.ref (A (b + 1)), .ref (A (b + 13)), .int x.2.2.1, .ref (A (b + 25)), .ref (A (b + 87)), .ref (A (b + 89))]))], [(A (b + 1), .inr (3, [.ref (A (b + 1 + 1)), .ref (A (b + 1 + 4)), .ref (A (b + 1 + 7)), .ref (A (b + 1 + 10)), .ref (A (b + 1 + 11)), .int x.1.2.2.2.2.2.1, .int x.1.2.2.2.2.2.2.1, .int x.1.2.2.2.2.2.2.2.1, .int x.1.2.2.2.2.2.2.2.2.1, .int x.1.2.2.2.2.2.2.2.2.2]))], wX4 g A (b + 1 + 1) x.1.1, wX4 g A (b + 1 + 4) x.1.2.1, wX4 g A (b + 1 + 7) x.1.2.2.1, [(A (b + 1 + 10), .inl (gI g, 3, .inl x.1.2.2.2.1))], [(A (b + 1 + 11), .inl (gI g, 2, .inl x.1.2.2.2.2.1))], wX3 g A (b + 13) x.2.1, [(A (b + 25), .inr (1, [.ref (A (b + 25 + 1)), .int x.2.2.2.1.2.1, .int x.2.2.2.1.2.2]))], [(A (b + 25 + 1), .inl (gR g, 5, .inr (.inr (.inr (.inr (fun k => some (A (b + 25 + 2 + 12 * k))))))))], wX3 g A (b + 25 + 2) (x.2.2.2.1.1 0), wX3 g A (b + 25 + 14) (x.2.2.2.1.1 1), wX3 g A (b + 25 + 26) (x.2.2.2.1.1 2), wX3 g A (b + 25 + 38) (x.2.2.2.1.1 3), wX3 g A (b + 25 + 50) (x.2.2.2.1.1 4), [(A (b + 87), .inr (2, [.ref (A (b + 87 + 1)), .int x.2.2.2.2.1.2]))], [(A (b + 87 + 1), .inl (gC g, 70, .inl x.2.2.2.2.1.1))], [(A (b + 89), .inr (0, [.ref (A (b + 89 + 1))]))], [(A (b + 89 + 1), .inl (gI g, 3, .inl x.2.2.2.2.2))]] := hW.re rfl
  replace hl : lv_has ls 2 [(0, .ref (A b)), (1, .int p1)] := hl
  unfold f_X5_total at h
  refine lv_iload_n hx hb dX5_total_0 rfl (lv_at hl 1 rfl) ?_
  by_cases e1 : p1 < 0
  · replace h := q_t e1 h
    refine lv_tableOut (tgt := 227) hx hb dX5_total_1 (tb_lo e1 rfl) (by decide) ?_
    refine lv_bipush (v := (-2)) hx hb dX5_total_227 (by decide) ?_
    cases h
    exact E _ _ _ _ _ hW rfl rfl dX5_total_229
  · replace h := q_f e1 h
    by_cases e2 : 14 < p1
    · replace h := q_t e2 h
      refine lv_tableOut (tgt := 227) hx hb dX5_total_1 (tb_hi e2 rfl) (by decide) ?_
      refine lv_bipush (v := (-2)) hx hb dX5_total_227 (by decide) ?_
      cases h
      exact E _ _ _ _ _ hW rfl rfl dX5_total_229
    · replace h := q_f e2 h
      by_cases e3 : p1 = 0
      · replace h := q_t e3 h
        have tb := tb_in e3 (lo := 0) (hi := 14) (offs := #[75, 86, 97, 108, 128, 136, 144, 152, 160, 168, 176, 186, 196, 206, 216]) (off := 75) (by decide)
        refine lv_tableIn (tgt := 76) hx hb dX5_total_1 tb.1 tb.2.1 tb.2.2 (by decide) ?_
        refine lv_aload_n hx hb dX5_total_76 rfl (lv_at hl 0 rfl) ?_
        refine r_get C hW (K := RX5) (T := TX5) (N := 6) (v := .ref (A (b + 1))) 0 0 0 rfl rfl rfl inX5_total_X5 (by decide) (List.mem_of_getElem? (i := 1) rfl) rfl rfl dX5_total_77 ?_
        refine r_getN C hW (K := RX3) (T := TX3) (N := 10) (v := .ref (A (b + 1 + 1))) 1 0 0 rfl rfl rfl inX5_total_X3 (by decide) (List.mem_of_getElem? (i := 0) rfl) rfl rfl dX5_total_80 ?_
        obtain ⟨t4, h5, h⟩ := q_b h
        refine r_cVi C hW (nA := 0) (As := []) (rest := []) (c_X4_count l g A (b + 1 + 1) x.1.1 _ h5) gX5_total_X4_count rfl ⟨rfl, wo_X4_count⟩ (rmk hR rfl rfl) rfl rfl rfl rfl hl.1 (Nat.le_of_ble_eq_true rfl) rz dX5_total_83 (n := 19) (is := [2]) (rs := [0, 1, 3, 4, 5, 6, 7, 8, 9, 10, 11, 12, 13, 14, 15, 16, 17, 18]) (bs' := [[(A b, .inr (5, [.ref (A (b + 1)), .ref (A (b + 13)), .int x.2.2.1, .ref (A (b + 25)), .ref (A (b + 87)), .ref (A (b + 89))]))], [(A (b + 1), .inr (3, [.ref (A (b + 1 + 1)), .ref (A (b + 1 + 4)), .ref (A (b + 1 + 7)), .ref (A (b + 1 + 10)), .ref (A (b + 1 + 11)), .int x.1.2.2.2.2.2.1, .int x.1.2.2.2.2.2.2.1, .int x.1.2.2.2.2.2.2.2.1, .int x.1.2.2.2.2.2.2.2.2.1, .int x.1.2.2.2.2.2.2.2.2.2]))], wX4 g A (b + 1 + 1) x.1.1, wX4 g A (b + 1 + 4) x.1.2.1, wX4 g A (b + 1 + 7) x.1.2.2.1, [(A (b + 1 + 10), .inl (gI g, 3, .inl x.1.2.2.2.1))], [(A (b + 1 + 11), .inl (gI g, 2, .inl x.1.2.2.2.2.1))], wX3 g A (b + 13) x.2.1, [(A (b + 25), .inr (1, [.ref (A (b + 25 + 1)), .int x.2.2.2.1.2.1, .int x.2.2.2.1.2.2]))], [(A (b + 25 + 1), .inl (gR g, 5, .inr (.inr (.inr (.inr (fun k => some (A (b + 25 + 2 + 12 * k))))))))], wX3 g A (b + 25 + 2) (x.2.2.2.1.1 0), wX3 g A (b + 25 + 14) (x.2.2.2.1.1 1), wX3 g A (b + 25 + 26) (x.2.2.2.1.1 2), wX3 g A (b + 25 + 38) (x.2.2.2.1.1 3), wX3 g A (b + 25 + 50) (x.2.2.2.1.1 4), [(A (b + 87), .inr (2, [.ref (A (b + 87 + 1)), .int x.2.2.2.2.1.2]))], [(A (b + 87 + 1), .inl (gC g, 70, .inl x.2.2.2.2.1.1))], [(A (b + 89), .inr (0, [.ref (A (b + 89 + 1))]))], [(A (b + 89 + 1), .inl (gI g, 3, .inl x.2.2.2.2.2))]]) rfl rfl pm_38382c85 (List.append_nil _) (List.append_nil _) (pk2 (rl := [[(A b, .inr (5, [.ref (A (b + 1)), .ref (A (b + 13)), .int x.2.2.1, .ref (A (b + 25)), .ref (A (b + 87)), .ref (A (b + 89))]))], [(A (b + 1), .inr (3, [.ref (A (b + 1 + 1)), .ref (A (b + 1 + 4)), .ref (A (b + 1 + 7)), .ref (A (b + 1 + 10)), .ref (A (b + 1 + 11)), .int x.1.2.2.2.2.2.1, .int x.1.2.2.2.2.2.2.1, .int x.1.2.2.2.2.2.2.2.1, .int x.1.2.2.2.2.2.2.2.2.1, .int x.1.2.2.2.2.2.2.2.2.2]))], wX4 g A (b + 1 + 4) x.1.2.1, wX4 g A (b + 1 + 7) x.1.2.2.1, [(A (b + 1 + 10), .inl (gI g, 3, .inl x.1.2.2.2.1))], [(A (b + 1 + 11), .inl (gI g, 2, .inl x.1.2.2.2.2.1))], wX3 g A (b + 13) x.2.1, [(A (b + 25), .inr (1, [.ref (A (b + 25 + 1)), .int x.2.2.2.1.2.1, .int x.2.2.2.1.2.2]))], [(A (b + 25 + 1), .inl (gR g, 5, .inr (.inr (.inr (.inr (fun k => some (A (b + 25 + 2 + 12 * k))))))))], wX3 g A (b + 25 + 2) (x.2.2.2.1.1 0), wX3 g A (b + 25 + 14) (x.2.2.2.1.1 1), wX3 g A (b + 25 + 26) (x.2.2.2.1.1 2), wX3 g A (b + 25 + 38) (x.2.2.2.1.1 3), wX3 g A (b + 25 + 50) (x.2.2.2.1.1 4), [(A (b + 87), .inr (2, [.ref (A (b + 87 + 1)), .int x.2.2.2.2.1.2]))], [(A (b + 87 + 1), .inl (gC g, 70, .inl x.2.2.2.2.1.1))], [(A (b + 89), .inr (0, [.ref (A (b + 89 + 1))]))], [(A (b + 89 + 1), .inl (gI g, 3, .inl x.2.2.2.2.2))]]) rfl rfl) (fun H locs hW => ?_)
        cases h
        exact E _ _ _ _ _ hW rfl rfl dX5_total_86
      · replace h := q_f e3 h
        by_cases e6 : p1 = 1
        · replace h := q_t e6 h
          have tb := tb_in e6 (lo := 0) (hi := 14) (offs := #[75, 86, 97, 108, 128, 136, 144, 152, 160, 168, 176, 186, 196, 206, 216]) (off := 86) (by decide)
          refine lv_tableIn (tgt := 87) hx hb dX5_total_1 tb.1 tb.2.1 tb.2.2 (by decide) ?_
          refine lv_aload_n hx hb dX5_total_87 rfl (lv_at hl 0 rfl) ?_
          refine r_get C hW (K := RX5) (T := TX5) (N := 6) (v := .ref (A (b + 1))) 0 0 0 rfl rfl rfl inX5_total_X5 (by decide) (List.mem_of_getElem? (i := 1) rfl) rfl rfl dX5_total_88 ?_
          refine r_getN C hW (K := RX3) (T := TX3) (N := 10) (v := .ref (A (b + 1 + 4))) 1 0 1 rfl rfl rfl inX5_total_X3 (by decide) (List.mem_of_getElem? (i := 1) rfl) rfl rfl dX5_total_91 ?_
          obtain ⟨t7, h8, h⟩ := q_b h
          refine r_cVi C hW (nA := 0) (As := []) (rest := []) (c_X4_count l g A (b + 1 + 4) x.1.2.1 _ h8) gX5_total_X4_count rfl ⟨rfl, wo_X4_count⟩ (rmk hR rfl rfl) rfl rfl rfl rfl hl.1 (Nat.le_of_ble_eq_true rfl) rz dX5_total_94 (n := 19) (is := [3]) (rs := [0, 1, 2, 4, 5, 6, 7, 8, 9, 10, 11, 12, 13, 14, 15, 16, 17, 18]) (bs' := [[(A b, .inr (5, [.ref (A (b + 1)), .ref (A (b + 13)), .int x.2.2.1, .ref (A (b + 25)), .ref (A (b + 87)), .ref (A (b + 89))]))], [(A (b + 1), .inr (3, [.ref (A (b + 1 + 1)), .ref (A (b + 1 + 4)), .ref (A (b + 1 + 7)), .ref (A (b + 1 + 10)), .ref (A (b + 1 + 11)), .int x.1.2.2.2.2.2.1, .int x.1.2.2.2.2.2.2.1, .int x.1.2.2.2.2.2.2.2.1, .int x.1.2.2.2.2.2.2.2.2.1, .int x.1.2.2.2.2.2.2.2.2.2]))], wX4 g A (b + 1 + 1) x.1.1, wX4 g A (b + 1 + 4) x.1.2.1, wX4 g A (b + 1 + 7) x.1.2.2.1, [(A (b + 1 + 10), .inl (gI g, 3, .inl x.1.2.2.2.1))], [(A (b + 1 + 11), .inl (gI g, 2, .inl x.1.2.2.2.2.1))], wX3 g A (b + 13) x.2.1, [(A (b + 25), .inr (1, [.ref (A (b + 25 + 1)), .int x.2.2.2.1.2.1, .int x.2.2.2.1.2.2]))], [(A (b + 25 + 1), .inl (gR g, 5, .inr (.inr (.inr (.inr (fun k => some (A (b + 25 + 2 + 12 * k))))))))], wX3 g A (b + 25 + 2) (x.2.2.2.1.1 0), wX3 g A (b + 25 + 14) (x.2.2.2.1.1 1), wX3 g A (b + 25 + 26) (x.2.2.2.1.1 2), wX3 g A (b + 25 + 38) (x.2.2.2.1.1 3), wX3 g A (b + 25 + 50) (x.2.2.2.1.1 4), [(A (b + 87), .inr (2, [.ref (A (b + 87 + 1)), .int x.2.2.2.2.1.2]))], [(A (b + 87 + 1), .inl (gC g, 70, .inl x.2.2.2.2.1.1))], [(A (b + 89), .inr (0, [.ref (A (b + 89 + 1))]))], [(A (b + 89 + 1), .inl (gI g, 3, .inl x.2.2.2.2.2))]]) rfl rfl pm_dcb18ec0 (List.append_nil _) (List.append_nil _) (pk2 (rl := [[(A b, .inr (5, [.ref (A (b + 1)), .ref (A (b + 13)), .int x.2.2.1, .ref (A (b + 25)), .ref (A (b + 87)), .ref (A (b + 89))]))], [(A (b + 1), .inr (3, [.ref (A (b + 1 + 1)), .ref (A (b + 1 + 4)), .ref (A (b + 1 + 7)), .ref (A (b + 1 + 10)), .ref (A (b + 1 + 11)), .int x.1.2.2.2.2.2.1, .int x.1.2.2.2.2.2.2.1, .int x.1.2.2.2.2.2.2.2.1, .int x.1.2.2.2.2.2.2.2.2.1, .int x.1.2.2.2.2.2.2.2.2.2]))], wX4 g A (b + 1 + 1) x.1.1, wX4 g A (b + 1 + 7) x.1.2.2.1, [(A (b + 1 + 10), .inl (gI g, 3, .inl x.1.2.2.2.1))], [(A (b + 1 + 11), .inl (gI g, 2, .inl x.1.2.2.2.2.1))], wX3 g A (b + 13) x.2.1, [(A (b + 25), .inr (1, [.ref (A (b + 25 + 1)), .int x.2.2.2.1.2.1, .int x.2.2.2.1.2.2]))], [(A (b + 25 + 1), .inl (gR g, 5, .inr (.inr (.inr (.inr (fun k => some (A (b + 25 + 2 + 12 * k))))))))], wX3 g A (b + 25 + 2) (x.2.2.2.1.1 0), wX3 g A (b + 25 + 14) (x.2.2.2.1.1 1), wX3 g A (b + 25 + 26) (x.2.2.2.1.1 2), wX3 g A (b + 25 + 38) (x.2.2.2.1.1 3), wX3 g A (b + 25 + 50) (x.2.2.2.1.1 4), [(A (b + 87), .inr (2, [.ref (A (b + 87 + 1)), .int x.2.2.2.2.1.2]))], [(A (b + 87 + 1), .inl (gC g, 70, .inl x.2.2.2.2.1.1))], [(A (b + 89), .inr (0, [.ref (A (b + 89 + 1))]))], [(A (b + 89 + 1), .inl (gI g, 3, .inl x.2.2.2.2.2))]]) rfl rfl) (fun H locs hW => ?_)
          cases h
          exact E _ _ _ _ _ hW rfl rfl dX5_total_97
        · replace h := q_f e6 h
          by_cases e9 : p1 = 2
          · replace h := q_t e9 h
            have tb := tb_in e9 (lo := 0) (hi := 14) (offs := #[75, 86, 97, 108, 128, 136, 144, 152, 160, 168, 176, 186, 196, 206, 216]) (off := 97) (by decide)
            refine lv_tableIn (tgt := 98) hx hb dX5_total_1 tb.1 tb.2.1 tb.2.2 (by decide) ?_
            refine lv_aload_n hx hb dX5_total_98 rfl (lv_at hl 0 rfl) ?_
            refine r_get C hW (K := RX5) (T := TX5) (N := 6) (v := .ref (A (b + 1))) 0 0 0 rfl rfl rfl inX5_total_X5 (by decide) (List.mem_of_getElem? (i := 1) rfl) rfl rfl dX5_total_99 ?_
            refine r_getN C hW (K := RX3) (T := TX3) (N := 10) (v := .ref (A (b + 1 + 7))) 1 0 2 rfl rfl rfl inX5_total_X3 (by decide) (List.mem_of_getElem? (i := 2) rfl) rfl rfl dX5_total_102 ?_
            obtain ⟨t10, h11, h⟩ := q_b h
            refine r_cVi C hW (nA := 0) (As := []) (rest := []) (c_X4_count l g A (b + 1 + 7) x.1.2.2.1 _ h11) gX5_total_X4_count rfl ⟨rfl, wo_X4_count⟩ (rmk hR rfl rfl) rfl rfl rfl rfl hl.1 (Nat.le_of_ble_eq_true rfl) rz dX5_total_105 (n := 19) (is := [4]) (rs := [0, 1, 2, 3, 5, 6, 7, 8, 9, 10, 11, 12, 13, 14, 15, 16, 17, 18]) (bs' := [[(A b, .inr (5, [.ref (A (b + 1)), .ref (A (b + 13)), .int x.2.2.1, .ref (A (b + 25)), .ref (A (b + 87)), .ref (A (b + 89))]))], [(A (b + 1), .inr (3, [.ref (A (b + 1 + 1)), .ref (A (b + 1 + 4)), .ref (A (b + 1 + 7)), .ref (A (b + 1 + 10)), .ref (A (b + 1 + 11)), .int x.1.2.2.2.2.2.1, .int x.1.2.2.2.2.2.2.1, .int x.1.2.2.2.2.2.2.2.1, .int x.1.2.2.2.2.2.2.2.2.1, .int x.1.2.2.2.2.2.2.2.2.2]))], wX4 g A (b + 1 + 1) x.1.1, wX4 g A (b + 1 + 4) x.1.2.1, wX4 g A (b + 1 + 7) x.1.2.2.1, [(A (b + 1 + 10), .inl (gI g, 3, .inl x.1.2.2.2.1))], [(A (b + 1 + 11), .inl (gI g, 2, .inl x.1.2.2.2.2.1))], wX3 g A (b + 13) x.2.1, [(A (b + 25), .inr (1, [.ref (A (b + 25 + 1)), .int x.2.2.2.1.2.1, .int x.2.2.2.1.2.2]))], [(A (b + 25 + 1), .inl (gR g, 5, .inr (.inr (.inr (.inr (fun k => some (A (b + 25 + 2 + 12 * k))))))))], wX3 g A (b + 25 + 2) (x.2.2.2.1.1 0), wX3 g A (b + 25 + 14) (x.2.2.2.1.1 1), wX3 g A (b + 25 + 26) (x.2.2.2.1.1 2), wX3 g A (b + 25 + 38) (x.2.2.2.1.1 3), wX3 g A (b + 25 + 50) (x.2.2.2.1.1 4), [(A (b + 87), .inr (2, [.ref (A (b + 87 + 1)), .int x.2.2.2.2.1.2]))], [(A (b + 87 + 1), .inl (gC g, 70, .inl x.2.2.2.2.1.1))], [(A (b + 89), .inr (0, [.ref (A (b + 89 + 1))]))], [(A (b + 89 + 1), .inl (gI g, 3, .inl x.2.2.2.2.2))]]) rfl rfl pm_5c86486d (List.append_nil _) (List.append_nil _) (pk2 (rl := [[(A b, .inr (5, [.ref (A (b + 1)), .ref (A (b + 13)), .int x.2.2.1, .ref (A (b + 25)), .ref (A (b + 87)), .ref (A (b + 89))]))], [(A (b + 1), .inr (3, [.ref (A (b + 1 + 1)), .ref (A (b + 1 + 4)), .ref (A (b + 1 + 7)), .ref (A (b + 1 + 10)), .ref (A (b + 1 + 11)), .int x.1.2.2.2.2.2.1, .int x.1.2.2.2.2.2.2.1, .int x.1.2.2.2.2.2.2.2.1, .int x.1.2.2.2.2.2.2.2.2.1, .int x.1.2.2.2.2.2.2.2.2.2]))], wX4 g A (b + 1 + 1) x.1.1, wX4 g A (b + 1 + 4) x.1.2.1, [(A (b + 1 + 10), .inl (gI g, 3, .inl x.1.2.2.2.1))], [(A (b + 1 + 11), .inl (gI g, 2, .inl x.1.2.2.2.2.1))], wX3 g A (b + 13) x.2.1, [(A (b + 25), .inr (1, [.ref (A (b + 25 + 1)), .int x.2.2.2.1.2.1, .int x.2.2.2.1.2.2]))], [(A (b + 25 + 1), .inl (gR g, 5, .inr (.inr (.inr (.inr (fun k => some (A (b + 25 + 2 + 12 * k))))))))], wX3 g A (b + 25 + 2) (x.2.2.2.1.1 0), wX3 g A (b + 25 + 14) (x.2.2.2.1.1 1), wX3 g A (b + 25 + 26) (x.2.2.2.1.1 2), wX3 g A (b + 25 + 38) (x.2.2.2.1.1 3), wX3 g A (b + 25 + 50) (x.2.2.2.1.1 4), [(A (b + 87), .inr (2, [.ref (A (b + 87 + 1)), .int x.2.2.2.2.1.2]))], [(A (b + 87 + 1), .inl (gC g, 70, .inl x.2.2.2.2.1.1))], [(A (b + 89), .inr (0, [.ref (A (b + 89 + 1))]))], [(A (b + 89 + 1), .inl (gI g, 3, .inl x.2.2.2.2.2))]]) rfl rfl) (fun H locs hW => ?_)
            cases h
            exact E _ _ _ _ _ hW rfl rfl dX5_total_108
          · replace h := q_f e9 h
            by_cases e12 : p1 = 3
            · replace h := q_t e12 h
              have tb := tb_in e12 (lo := 0) (hi := 14) (offs := #[75, 86, 97, 108, 128, 136, 144, 152, 160, 168, 176, 186, 196, 206, 216]) (off := 108) (by decide)
              refine lv_tableIn (tgt := 109) hx hb dX5_total_1 tb.1 tb.2.1 tb.2.2 (by decide) ?_
              refine lv_aload_n hx hb dX5_total_109 rfl (lv_at hl 0 rfl) ?_
              refine r_get C hW (K := RX5) (T := TX5) (N := 6) (v := .ref (A (b + 1))) 0 0 0 rfl rfl rfl inX5_total_X5 (by decide) (List.mem_of_getElem? (i := 1) rfl) rfl rfl dX5_total_110 ?_
              refine r_getN C hW (K := RX3) (T := TX3) (N := 10) (v := .ref (A (b + 1 + 4))) 1 0 1 rfl rfl rfl inX5_total_X3 (by decide) (List.mem_of_getElem? (i := 1) rfl) rfl rfl dX5_total_113 ?_
              refine lv_aload_n hx hb dX5_total_116 rfl (lv_at hl 0 rfl) ?_
              refine r_get C hW (K := RX5) (T := TX5) (N := 6) (v := .ref (A (b + 1))) 0 0 0 rfl rfl rfl inX5_total_X5 (by decide) (List.mem_of_getElem? (i := 1) rfl) rfl rfl dX5_total_117 ?_
              refine r_getN C hW (K := RX3) (T := TX3) (N := 10) (v := .ref (A (b + 1 + 11))) 1 0 4 rfl rfl rfl inX5_total_X3 (by decide) (List.mem_of_getElem? (i := 3) rfl) rfl rfl dX5_total_120 ?_
              refine lv_iconst (v := 0) hx hb dX5_total_123 (by decide) ?_
              obtain ⟨g13, h⟩ := q_g h
              refine r_iald C hW 6 0 rfl rfl g13 dX5_total_124 ?_
              obtain ⟨t14, h15, h⟩ := q_b h
              refine r_cVi C hW (nA := 1) (As := [.int (x.1.2.2.2.2.1 (0 : Int32).toNatClampNeg)]) (rest := []) (c_X4_countFrom l g A (b + 1 + 4) x.1.2.1 (x.1.2.2.2.2.1 (0 : Int32).toNatClampNeg) _ h15) gX5_total_X4_countFrom rfl ⟨rfl, wo_X4_countFrom⟩ (rmk hR rfl rfl) rfl rfl rfl rfl hl.1 (Nat.le_of_ble_eq_true rfl) rz dX5_total_125 (n := 19) (is := [3]) (rs := [0, 1, 2, 4, 5, 6, 7, 8, 9, 10, 11, 12, 13, 14, 15, 16, 17, 18]) (bs' := [[(A b, .inr (5, [.ref (A (b + 1)), .ref (A (b + 13)), .int x.2.2.1, .ref (A (b + 25)), .ref (A (b + 87)), .ref (A (b + 89))]))], [(A (b + 1), .inr (3, [.ref (A (b + 1 + 1)), .ref (A (b + 1 + 4)), .ref (A (b + 1 + 7)), .ref (A (b + 1 + 10)), .ref (A (b + 1 + 11)), .int x.1.2.2.2.2.2.1, .int x.1.2.2.2.2.2.2.1, .int x.1.2.2.2.2.2.2.2.1, .int x.1.2.2.2.2.2.2.2.2.1, .int x.1.2.2.2.2.2.2.2.2.2]))], wX4 g A (b + 1 + 1) x.1.1, wX4 g A (b + 1 + 4) x.1.2.1, wX4 g A (b + 1 + 7) x.1.2.2.1, [(A (b + 1 + 10), .inl (gI g, 3, .inl x.1.2.2.2.1))], [(A (b + 1 + 11), .inl (gI g, 2, .inl x.1.2.2.2.2.1))], wX3 g A (b + 13) x.2.1, [(A (b + 25), .inr (1, [.ref (A (b + 25 + 1)), .int x.2.2.2.1.2.1, .int x.2.2.2.1.2.2]))], [(A (b + 25 + 1), .inl (gR g, 5, .inr (.inr (.inr (.inr (fun k => some (A (b + 25 + 2 + 12 * k))))))))], wX3 g A (b + 25 + 2) (x.2.2.2.1.1 0), wX3 g A (b + 25 + 14) (x.2.2.2.1.1 1), wX3 g A (b + 25 + 26) (x.2.2.2.1.1 2), wX3 g A (b + 25 + 38) (x.2.2.2.1.1 3), wX3 g A (b + 25 + 50) (x.2.2.2.1.1 4), [(A (b + 87), .inr (2, [.ref (A (b + 87 + 1)), .int x.2.2.2.2.1.2]))], [(A (b + 87 + 1), .inl (gC g, 70, .inl x.2.2.2.2.1.1))], [(A (b + 89), .inr (0, [.ref (A (b + 89 + 1))]))], [(A (b + 89 + 1), .inl (gI g, 3, .inl x.2.2.2.2.2))]]) rfl rfl pm_dcb18ec0 (List.append_nil _) (List.append_nil _) (pk2 (rl := [[(A b, .inr (5, [.ref (A (b + 1)), .ref (A (b + 13)), .int x.2.2.1, .ref (A (b + 25)), .ref (A (b + 87)), .ref (A (b + 89))]))], [(A (b + 1), .inr (3, [.ref (A (b + 1 + 1)), .ref (A (b + 1 + 4)), .ref (A (b + 1 + 7)), .ref (A (b + 1 + 10)), .ref (A (b + 1 + 11)), .int x.1.2.2.2.2.2.1, .int x.1.2.2.2.2.2.2.1, .int x.1.2.2.2.2.2.2.2.1, .int x.1.2.2.2.2.2.2.2.2.1, .int x.1.2.2.2.2.2.2.2.2.2]))], wX4 g A (b + 1 + 1) x.1.1, wX4 g A (b + 1 + 7) x.1.2.2.1, [(A (b + 1 + 10), .inl (gI g, 3, .inl x.1.2.2.2.1))], [(A (b + 1 + 11), .inl (gI g, 2, .inl x.1.2.2.2.2.1))], wX3 g A (b + 13) x.2.1, [(A (b + 25), .inr (1, [.ref (A (b + 25 + 1)), .int x.2.2.2.1.2.1, .int x.2.2.2.1.2.2]))], [(A (b + 25 + 1), .inl (gR g, 5, .inr (.inr (.inr (.inr (fun k => some (A (b + 25 + 2 + 12 * k))))))))], wX3 g A (b + 25 + 2) (x.2.2.2.1.1 0), wX3 g A (b + 25 + 14) (x.2.2.2.1.1 1), wX3 g A (b + 25 + 26) (x.2.2.2.1.1 2), wX3 g A (b + 25 + 38) (x.2.2.2.1.1 3), wX3 g A (b + 25 + 50) (x.2.2.2.1.1 4), [(A (b + 87), .inr (2, [.ref (A (b + 87 + 1)), .int x.2.2.2.2.1.2]))], [(A (b + 87 + 1), .inl (gC g, 70, .inl x.2.2.2.2.1.1))], [(A (b + 89), .inr (0, [.ref (A (b + 89 + 1))]))], [(A (b + 89 + 1), .inl (gI g, 3, .inl x.2.2.2.2.2))]]) rfl rfl) (fun H locs hW => ?_)
              cases h
              exact E _ _ _ _ _ hW rfl rfl dX5_total_128
            · replace h := q_f e12 h
              by_cases e16 : p1 = 4
              · replace h := q_t e16 h
                have tb := tb_in e16 (lo := 0) (hi := 14) (offs := #[75, 86, 97, 108, 128, 136, 144, 152, 160, 168, 176, 186, 196, 206, 216]) (off := 128) (by decide)
                refine lv_tableIn (tgt := 129) hx hb dX5_total_1 tb.1 tb.2.1 tb.2.2 (by decide) ?_
                refine lv_aload_n hx hb dX5_total_129 rfl (lv_at hl 0 rfl) ?_
                refine r_get C hW (K := RX5) (T := TX5) (N := 6) (v := .ref (A (b + 1))) 0 0 0 rfl rfl rfl inX5_total_X5 (by decide) (List.mem_of_getElem? (i := 1) rfl) rfl rfl dX5_total_130 ?_
                refine r_getN C hW (K := RX3) (T := TX3) (N := 10) (v := .int x.1.2.2.2.2.2.1) 1 0 5 rfl rfl rfl inX5_total_X3 (by decide) (List.mem_of_getElem? (i := 9) rfl) rfl rfl dX5_total_133 ?_
                cases h
                exact E _ _ _ _ _ hW rfl rfl dX5_total_136
              · replace h := q_f e16 h
                by_cases e17 : p1 = 5
                · replace h := q_t e17 h
                  have tb := tb_in e17 (lo := 0) (hi := 14) (offs := #[75, 86, 97, 108, 128, 136, 144, 152, 160, 168, 176, 186, 196, 206, 216]) (off := 136) (by decide)
                  refine lv_tableIn (tgt := 137) hx hb dX5_total_1 tb.1 tb.2.1 tb.2.2 (by decide) ?_
                  refine lv_aload_n hx hb dX5_total_137 rfl (lv_at hl 0 rfl) ?_
                  refine r_get C hW (K := RX5) (T := TX5) (N := 6) (v := .ref (A (b + 1))) 0 0 0 rfl rfl rfl inX5_total_X5 (by decide) (List.mem_of_getElem? (i := 1) rfl) rfl rfl dX5_total_138 ?_
                  refine r_getN C hW (K := RX3) (T := TX3) (N := 10) (v := .int x.1.2.2.2.2.2.2.1) 1 0 6 rfl rfl rfl inX5_total_X3 (by decide) (List.mem_of_getElem? (i := 4) rfl) rfl rfl dX5_total_141 ?_
                  cases h
                  exact E _ _ _ _ _ hW rfl rfl dX5_total_144
                · replace h := q_f e17 h
                  by_cases e18 : p1 = 6
                  · replace h := q_t e18 h
                    have tb := tb_in e18 (lo := 0) (hi := 14) (offs := #[75, 86, 97, 108, 128, 136, 144, 152, 160, 168, 176, 186, 196, 206, 216]) (off := 144) (by decide)
                    refine lv_tableIn (tgt := 145) hx hb dX5_total_1 tb.1 tb.2.1 tb.2.2 (by decide) ?_
                    refine lv_aload_n hx hb dX5_total_145 rfl (lv_at hl 0 rfl) ?_
                    refine r_get C hW (K := RX5) (T := TX5) (N := 6) (v := .ref (A (b + 1))) 0 0 0 rfl rfl rfl inX5_total_X5 (by decide) (List.mem_of_getElem? (i := 1) rfl) rfl rfl dX5_total_146 ?_
                    refine r_getN C hW (K := RX3) (T := TX3) (N := 10) (v := .int x.1.2.2.2.2.2.2.2.1) 1 0 7 rfl rfl rfl inX5_total_X3 (by decide) (List.mem_of_getElem? (i := 5) rfl) rfl rfl dX5_total_149 ?_
                    cases h
                    exact E _ _ _ _ _ hW rfl rfl dX5_total_152
                  · replace h := q_f e18 h
                    by_cases e19 : p1 = 7
                    · replace h := q_t e19 h
                      have tb := tb_in e19 (lo := 0) (hi := 14) (offs := #[75, 86, 97, 108, 128, 136, 144, 152, 160, 168, 176, 186, 196, 206, 216]) (off := 152) (by decide)
                      refine lv_tableIn (tgt := 153) hx hb dX5_total_1 tb.1 tb.2.1 tb.2.2 (by decide) ?_
                      refine lv_aload_n hx hb dX5_total_153 rfl (lv_at hl 0 rfl) ?_
                      refine r_get C hW (K := RX5) (T := TX5) (N := 6) (v := .ref (A (b + 1))) 0 0 0 rfl rfl rfl inX5_total_X5 (by decide) (List.mem_of_getElem? (i := 1) rfl) rfl rfl dX5_total_154 ?_
                      refine r_getN C hW (K := RX3) (T := TX3) (N := 10) (v := .int x.1.2.2.2.2.2.2.2.2.1) 1 0 8 rfl rfl rfl inX5_total_X3 (by decide) (List.mem_of_getElem? (i := 6) rfl) rfl rfl dX5_total_157 ?_
                      cases h
                      exact E _ _ _ _ _ hW rfl rfl dX5_total_160
                    · replace h := q_f e19 h
                      by_cases e20 : p1 = 8
                      · replace h := q_t e20 h
                        have tb := tb_in e20 (lo := 0) (hi := 14) (offs := #[75, 86, 97, 108, 128, 136, 144, 152, 160, 168, 176, 186, 196, 206, 216]) (off := 160) (by decide)
                        refine lv_tableIn (tgt := 161) hx hb dX5_total_1 tb.1 tb.2.1 tb.2.2 (by decide) ?_
                        refine lv_aload_n hx hb dX5_total_161 rfl (lv_at hl 0 rfl) ?_
                        refine r_get C hW (K := RX5) (T := TX5) (N := 6) (v := .ref (A (b + 1))) 0 0 0 rfl rfl rfl inX5_total_X5 (by decide) (List.mem_of_getElem? (i := 1) rfl) rfl rfl dX5_total_162 ?_
                        refine r_getN C hW (K := RX3) (T := TX3) (N := 10) (v := .int x.1.2.2.2.2.2.2.2.2.2) 1 0 9 rfl rfl rfl inX5_total_X3 (by decide) (List.mem_of_getElem? (i := 7) rfl) rfl rfl dX5_total_165 ?_
                        cases h
                        exact E _ _ _ _ _ hW rfl rfl dX5_total_168
                      · replace h := q_f e20 h
                        by_cases e21 : p1 = 9
                        · replace h := q_t e21 h
                          have tb := tb_in e21 (lo := 0) (hi := 14) (offs := #[75, 86, 97, 108, 128, 136, 144, 152, 160, 168, 176, 186, 196, 206, 216]) (off := 168) (by decide)
                          refine lv_tableIn (tgt := 169) hx hb dX5_total_1 tb.1 tb.2.1 tb.2.2 (by decide) ?_
                          refine lv_aload_n hx hb dX5_total_169 rfl (lv_at hl 0 rfl) ?_
                          refine r_get C hW (K := RX5) (T := TX5) (N := 6) (v := .ref (A (b + 1))) 0 0 0 rfl rfl rfl inX5_total_X5 (by decide) (List.mem_of_getElem? (i := 1) rfl) rfl rfl dX5_total_170 ?_
                          obtain ⟨t22, h23, h⟩ := q_b h
                          refine r_cVi C hW (nA := 0) (As := []) (rest := []) (c_X3_sumOfStrengths l g A (b + 1) x.1 _ h23) gX5_total_X3_sumOfStrengths rfl ⟨rfl, wo_X3_sumOfStrengths⟩ (rmk hR rfl rfl) rfl rfl rfl rfl hl.1 (Nat.le_of_ble_eq_true rfl) rz dX5_total_173 (n := 19) (is := [1, 2, 3, 4, 5, 6]) (rs := [0, 7, 8, 9, 10, 11, 12, 13, 14, 15, 16, 17, 18]) (bs' := [[(A b, .inr (5, [.ref (A (b + 1)), .ref (A (b + 13)), .int x.2.2.1, .ref (A (b + 25)), .ref (A (b + 87)), .ref (A (b + 89))]))], [(A (b + 1), .inr (3, [.ref (A (b + 1 + 1)), .ref (A (b + 1 + 4)), .ref (A (b + 1 + 7)), .ref (A (b + 1 + 10)), .ref (A (b + 1 + 11)), .int x.1.2.2.2.2.2.1, .int x.1.2.2.2.2.2.2.1, .int x.1.2.2.2.2.2.2.2.1, .int x.1.2.2.2.2.2.2.2.2.1, .int x.1.2.2.2.2.2.2.2.2.2]))], wX4 g A (b + 1 + 1) x.1.1, wX4 g A (b + 1 + 4) x.1.2.1, wX4 g A (b + 1 + 7) x.1.2.2.1, [(A (b + 1 + 10), .inl (gI g, 3, .inl x.1.2.2.2.1))], [(A (b + 1 + 11), .inl (gI g, 2, .inl x.1.2.2.2.2.1))], wX3 g A (b + 13) x.2.1, [(A (b + 25), .inr (1, [.ref (A (b + 25 + 1)), .int x.2.2.2.1.2.1, .int x.2.2.2.1.2.2]))], [(A (b + 25 + 1), .inl (gR g, 5, .inr (.inr (.inr (.inr (fun k => some (A (b + 25 + 2 + 12 * k))))))))], wX3 g A (b + 25 + 2) (x.2.2.2.1.1 0), wX3 g A (b + 25 + 14) (x.2.2.2.1.1 1), wX3 g A (b + 25 + 26) (x.2.2.2.1.1 2), wX3 g A (b + 25 + 38) (x.2.2.2.1.1 3), wX3 g A (b + 25 + 50) (x.2.2.2.1.1 4), [(A (b + 87), .inr (2, [.ref (A (b + 87 + 1)), .int x.2.2.2.2.1.2]))], [(A (b + 87 + 1), .inl (gC g, 70, .inl x.2.2.2.2.1.1))], [(A (b + 89), .inr (0, [.ref (A (b + 89 + 1))]))], [(A (b + 89 + 1), .inl (gI g, 3, .inl x.2.2.2.2.2))]]) rfl rfl pm_4197aa27 rfl rfl (pk2 (rl := [[(A b, .inr (5, [.ref (A (b + 1)), .ref (A (b + 13)), .int x.2.2.1, .ref (A (b + 25)), .ref (A (b + 87)), .ref (A (b + 89))]))], wX3 g A (b + 13) x.2.1, [(A (b + 25), .inr (1, [.ref (A (b + 25 + 1)), .int x.2.2.2.1.2.1, .int x.2.2.2.1.2.2]))], [(A (b + 25 + 1), .inl (gR g, 5, .inr (.inr (.inr (.inr (fun k => some (A (b + 25 + 2 + 12 * k))))))))], wX3 g A (b + 25 + 2) (x.2.2.2.1.1 0), wX3 g A (b + 25 + 14) (x.2.2.2.1.1 1), wX3 g A (b + 25 + 26) (x.2.2.2.1.1 2), wX3 g A (b + 25 + 38) (x.2.2.2.1.1 3), wX3 g A (b + 25 + 50) (x.2.2.2.1.1 4), [(A (b + 87), .inr (2, [.ref (A (b + 87 + 1)), .int x.2.2.2.2.1.2]))], [(A (b + 87 + 1), .inl (gC g, 70, .inl x.2.2.2.2.1.1))], [(A (b + 89), .inr (0, [.ref (A (b + 89 + 1))]))], [(A (b + 89 + 1), .inl (gI g, 3, .inl x.2.2.2.2.2))]]) rfl rfl) (fun H locs hW => ?_)
                          cases h
                          exact E _ _ _ _ _ hW rfl rfl dX5_total_176
                        · replace h := q_f e21 h
                          by_cases e24 : p1 = 10
                          · replace h := q_t e24 h
                            have tb := tb_in e24 (lo := 0) (hi := 14) (offs := #[75, 86, 97, 108, 128, 136, 144, 152, 160, 168, 176, 186, 196, 206, 216]) (off := 176) (by decide)
                            refine lv_tableIn (tgt := 177) hx hb dX5_total_1 tb.1 tb.2.1 tb.2.2 (by decide) ?_
                            refine lv_aload_n hx hb dX5_total_177 rfl (lv_at hl 0 rfl) ?_
                            refine r_get C hW (K := RX5) (T := TX5) (N := 6) (v := .ref (A (b + 1))) 0 0 0 rfl rfl rfl inX5_total_X5 (by decide) (List.mem_of_getElem? (i := 1) rfl) rfl rfl dX5_total_178 ?_
                            refine r_getN C hW (K := RX3) (T := TX3) (N := 10) (v := .ref (A (b + 1 + 10))) 1 0 3 rfl rfl rfl inX5_total_X3 (by decide) (List.mem_of_getElem? (i := 8) rfl) rfl rfl dX5_total_181 ?_
                            refine lv_iconst (v := 0) hx hb dX5_total_184 (by decide) ?_
                            obtain ⟨g25, h⟩ := q_g h
                            refine r_iald C hW 5 0 rfl rfl g25 dX5_total_185 ?_
                            cases h
                            exact E _ _ _ _ _ hW rfl rfl dX5_total_186
                          · replace h := q_f e24 h
                            by_cases e26 : p1 = 11
                            · replace h := q_t e26 h
                              have tb := tb_in e26 (lo := 0) (hi := 14) (offs := #[75, 86, 97, 108, 128, 136, 144, 152, 160, 168, 176, 186, 196, 206, 216]) (off := 186) (by decide)
                              refine lv_tableIn (tgt := 187) hx hb dX5_total_1 tb.1 tb.2.1 tb.2.2 (by decide) ?_
                              refine lv_aload_n hx hb dX5_total_187 rfl (lv_at hl 0 rfl) ?_
                              refine r_get C hW (K := RX5) (T := TX5) (N := 6) (v := .ref (A (b + 1))) 0 0 0 rfl rfl rfl inX5_total_X5 (by decide) (List.mem_of_getElem? (i := 1) rfl) rfl rfl dX5_total_188 ?_
                              refine r_getN C hW (K := RX3) (T := TX3) (N := 10) (v := .ref (A (b + 1 + 10))) 1 0 3 rfl rfl rfl inX5_total_X3 (by decide) (List.mem_of_getElem? (i := 8) rfl) rfl rfl dX5_total_191 ?_
                              refine lv_iconst (v := 1) hx hb dX5_total_194 (by decide) ?_
                              obtain ⟨g27, h⟩ := q_g h
                              refine r_iald C hW 5 0 rfl rfl g27 dX5_total_195 ?_
                              cases h
                              exact E _ _ _ _ _ hW rfl rfl dX5_total_196
                            · replace h := q_f e26 h
                              by_cases e28 : p1 = 12
                              · replace h := q_t e28 h
                                have tb := tb_in e28 (lo := 0) (hi := 14) (offs := #[75, 86, 97, 108, 128, 136, 144, 152, 160, 168, 176, 186, 196, 206, 216]) (off := 196) (by decide)
                                refine lv_tableIn (tgt := 197) hx hb dX5_total_1 tb.1 tb.2.1 tb.2.2 (by decide) ?_
                                refine lv_aload_n hx hb dX5_total_197 rfl (lv_at hl 0 rfl) ?_
                                refine r_get C hW (K := RX5) (T := TX5) (N := 6) (v := .ref (A (b + 1))) 0 0 0 rfl rfl rfl inX5_total_X5 (by decide) (List.mem_of_getElem? (i := 1) rfl) rfl rfl dX5_total_198 ?_
                                refine r_getN C hW (K := RX3) (T := TX3) (N := 10) (v := .ref (A (b + 1 + 10))) 1 0 3 rfl rfl rfl inX5_total_X3 (by decide) (List.mem_of_getElem? (i := 8) rfl) rfl rfl dX5_total_201 ?_
                                refine lv_iconst (v := 2) hx hb dX5_total_204 (by decide) ?_
                                obtain ⟨g29, h⟩ := q_g h
                                refine r_iald C hW 5 0 rfl rfl g29 dX5_total_205 ?_
                                cases h
                                exact E _ _ _ _ _ hW rfl rfl dX5_total_206
                              · replace h := q_f e28 h
                                by_cases e30 : p1 = 13
                                · replace h := q_t e30 h
                                  have tb := tb_in e30 (lo := 0) (hi := 14) (offs := #[75, 86, 97, 108, 128, 136, 144, 152, 160, 168, 176, 186, 196, 206, 216]) (off := 206) (by decide)
                                  refine lv_tableIn (tgt := 207) hx hb dX5_total_1 tb.1 tb.2.1 tb.2.2 (by decide) ?_
                                  refine lv_aload_n hx hb dX5_total_207 rfl (lv_at hl 0 rfl) ?_
                                  refine r_get C hW (K := RX5) (T := TX5) (N := 6) (v := .ref (A (b + 1))) 0 0 0 rfl rfl rfl inX5_total_X5 (by decide) (List.mem_of_getElem? (i := 1) rfl) rfl rfl dX5_total_208 ?_
                                  refine r_getN C hW (K := RX3) (T := TX3) (N := 10) (v := .ref (A (b + 1 + 11))) 1 0 4 rfl rfl rfl inX5_total_X3 (by decide) (List.mem_of_getElem? (i := 3) rfl) rfl rfl dX5_total_211 ?_
                                  refine lv_iconst (v := 0) hx hb dX5_total_214 (by decide) ?_
                                  obtain ⟨g31, h⟩ := q_g h
                                  refine r_iald C hW 6 0 rfl rfl g31 dX5_total_215 ?_
                                  cases h
                                  exact E _ _ _ _ _ hW rfl rfl dX5_total_216
                                · replace h := q_f e30 h
                                  by_cases e32 : p1 = 14
                                  · replace h := q_t e32 h
                                    have tb := tb_in e32 (lo := 0) (hi := 14) (offs := #[75, 86, 97, 108, 128, 136, 144, 152, 160, 168, 176, 186, 196, 206, 216]) (off := 216) (by decide)
                                    refine lv_tableIn (tgt := 217) hx hb dX5_total_1 tb.1 tb.2.1 tb.2.2 (by decide) ?_
                                    refine lv_aload_n hx hb dX5_total_217 rfl (lv_at hl 0 rfl) ?_
                                    refine r_get C hW (K := RX5) (T := TX5) (N := 6) (v := .ref (A (b + 1))) 0 0 0 rfl rfl rfl inX5_total_X5 (by decide) (List.mem_of_getElem? (i := 1) rfl) rfl rfl dX5_total_218 ?_
                                    refine r_getN C hW (K := RX3) (T := TX3) (N := 10) (v := .ref (A (b + 1 + 11))) 1 0 4 rfl rfl rfl inX5_total_X3 (by decide) (List.mem_of_getElem? (i := 3) rfl) rfl rfl dX5_total_221 ?_
                                    refine lv_iconst (v := 1) hx hb dX5_total_224 (by decide) ?_
                                    obtain ⟨g33, h⟩ := q_g h
                                    refine r_iald C hW 6 0 rfl rfl g33 dX5_total_225 ?_
                                    cases h
                                    exact E _ _ _ _ _ hW rfl rfl dX5_total_226
                                  · replace h := q_f e32 h
                                    cases h
