def f_X3_cellPart (x : TX3s) (p1 : Int32) (p2 : Int32) (p3 : Int32) : Option (Int32) :=
if p3 < 0 then (
some (-2))
else if 6 < p3 then (
some (-2))
else if p3 = 0 then (
(f_X4_kindOr x.1 p1 p2 (-6)).bind fun t4 =>
some t4)
else if p3 = 1 then (
(f_X4_strengthAt x.1 p1 p2).bind fun t7 =>
some t7)
else if p3 = 2 then (
(f_X4_kindOr x.2.1 p1 p2 (-6)).bind fun t10 =>
some t10)
else if p3 = 3 then (
(f_X4_strengthAt x.2.1 p1 p2).bind fun t13 =>
some t13)
else if p3 = 4 then (
(f_X3_canRead x p1 p2).bind fun t16 =>
(f_X5_asNumber t16).bind fun t18 =>
some t18)
else if p3 = 5 then (
(f_X3_isFree x p1 p2 0).bind fun t21 =>
(f_X5_asNumber t21).bind fun t23 =>
some t23)
else if p3 = 6 then (
(f_X3_isFree x p1 p2 1).bind fun t26 =>
(f_X5_asNumber t26).bind fun t28 =>
some t28)
else none
theorem wo_X3_cellPart : wordsOk yX3_cellPart 3 := by decide +kernel
theorem inX3_cellPart_X3 : ∀ w ∈ wsX30, w ∈ wsX3_cellPart := fun _ h => List.mem_cons_of_mem _ (List.mem_append_left _ (List.mem_append_right _ h))
set_option maxHeartbeats 4000000 in
set_option maxRecDepth 100000 in
theorem c_X3_cellPart (l : Launch) (g : GG) (A : Nat → Nat) (b : Nat) (x : TX3s) (p1 : Int32) (p2 : Int32) (p3 : Int32) (r : Int32) (h : f_X3_cellPart x p1 p2 p3 = some r) : CI l yX3_cellPart wsX3_cellPart 2 47 g [.ref (A b), .int p1, .int p2, .int p3] (wX3 g A b x) r (wX3 g A b x) := by
  refine CI.mk (own := RX3) (by decide) rfl rfl (Nat.le_of_ble_eq_true rfl) ?_
  intro p e R s m args below meth c Z Q C E hR H hW ls hl
  have hx := C.1.1
  have hb := C.1.2.1
  have hown := C.1.2.2.2.1
  replace hW : WdG g Z s.heap H [] [[(A b, .inr (3, [.ref (A (b + 1)), .ref (A (b + 4)), .ref (A (b + 7)), .ref (A (b + 10)), .ref (A (b + 11)), .int x.2.2.2.2.2.1, .int x.2.2.2.2.2.2.1, .int x.2.2.2.2.2.2.2.1, .int x.2.2.2.2.2.2.2.2.1, .int x.2.2.2.2.2.2.2.2.2]))], wX4 g A (b + 1) x.1, wX4 g A (b + 4) x.2.1, wX4 g A (b + 7) x.2.2.1, [(A (b + 10), .inl (gI g, 3, .inl x.2.2.2.1))], [(A (b + 11), .inl (gI g, 2, .inl x.2.2.2.2.1))]] := hW.re rfl
  replace hl : lv_has ls 4 [(0, .ref (A b)), (1, .int p1), (2, .int p2), (3, .int p3)] := hl
  unfold f_X3_cellPart at h
  refine lv_iload_n hx hb dX3_cellPart_0 rfl (lv_at hl 3 rfl) ?_
  by_cases e1 : p3 < 0
  · replace h := q_t e1 h
    refine lv_tableOut (tgt := 120) hx hb dX3_cellPart_1 (tb_lo e1 rfl) (by decide) ?_
    refine lv_bipush (v := (-2)) hx hb dX3_cellPart_120 (by decide) ?_
    cases h
    exact E _ _ _ _ _ hW rfl rfl dX3_cellPart_122
  · replace h := q_f e1 h
    by_cases e2 : 6 < p3
    · replace h := q_t e2 h
      refine lv_tableOut (tgt := 120) hx hb dX3_cellPart_1 (tb_hi e2 rfl) (by decide) ?_
      refine lv_bipush (v := (-2)) hx hb dX3_cellPart_120 (by decide) ?_
      cases h
      exact E _ _ _ _ _ hW rfl rfl dX3_cellPart_122
    · replace h := q_f e2 h
      by_cases e3 : p3 = 0
      · replace h := q_t e3 h
        have tb := tb_in e3 (lo := 0) (hi := 6) (offs := #[43, 55, 65, 77, 87, 97, 108]) (off := 43) (by decide)
        refine lv_tableIn (tgt := 44) hx hb dX3_cellPart_1 tb.1 tb.2.1 tb.2.2 (by decide) ?_
        refine lv_aload_n hx hb dX3_cellPart_44 rfl (lv_at hl 0 rfl) ?_
        refine r_get C hW (K := RX3) (T := TX3) (N := 10) (v := .ref (A (b + 1))) 0 0 0 rfl rfl rfl inX3_cellPart_X3 (by decide) (List.mem_of_getElem? (i := 1) rfl) rfl rfl dX3_cellPart_45 ?_
        refine lv_iload_n hx hb dX3_cellPart_48 rfl (lv_at hl 1 rfl) ?_
        refine lv_iload_n hx hb dX3_cellPart_49 rfl (lv_at hl 2 rfl) ?_
        refine lv_bipush (v := (-6)) hx hb dX3_cellPart_50 (by decide) ?_
        obtain ⟨t4, h5, h⟩ := q_b h
        refine r_cVi C hW (nA := 3) (As := [.int p1, .int p2, .int (-6)]) (rest := []) (c_X4_kindOr l g A (b + 1) x.1 p1 p2 (-6) _ h5) gX3_cellPart_X4_kindOr rfl ⟨rfl, wo_X4_kindOr⟩ (rmk hR rfl rfl) rfl rfl rfl rfl hl.1 (Nat.le_of_ble_eq_true rfl) rz dX3_cellPart_52 (n := 6) (is := [1]) (rs := [0, 2, 3, 4, 5]) (bs' := [[(A b, .inr (3, [.ref (A (b + 1)), .ref (A (b + 4)), .ref (A (b + 7)), .ref (A (b + 10)), .ref (A (b + 11)), .int x.2.2.2.2.2.1, .int x.2.2.2.2.2.2.1, .int x.2.2.2.2.2.2.2.1, .int x.2.2.2.2.2.2.2.2.1, .int x.2.2.2.2.2.2.2.2.2]))], wX4 g A (b + 1) x.1, wX4 g A (b + 4) x.2.1, wX4 g A (b + 7) x.2.2.1, [(A (b + 10), .inl (gI g, 3, .inl x.2.2.2.1))], [(A (b + 11), .inl (gI g, 2, .inl x.2.2.2.2.1))]]) rfl rfl pm_5f1b36ad (List.append_nil _) (List.append_nil _) rfl (fun H locs hW => ?_)
        cases h
        exact E _ _ _ _ _ hW rfl rfl dX3_cellPart_55
      · replace h := q_f e3 h
        by_cases e6 : p3 = 1
        · replace h := q_t e6 h
          have tb := tb_in e6 (lo := 0) (hi := 6) (offs := #[43, 55, 65, 77, 87, 97, 108]) (off := 55) (by decide)
          refine lv_tableIn (tgt := 56) hx hb dX3_cellPart_1 tb.1 tb.2.1 tb.2.2 (by decide) ?_
          refine lv_aload_n hx hb dX3_cellPart_56 rfl (lv_at hl 0 rfl) ?_
          refine r_get C hW (K := RX3) (T := TX3) (N := 10) (v := .ref (A (b + 1))) 0 0 0 rfl rfl rfl inX3_cellPart_X3 (by decide) (List.mem_of_getElem? (i := 1) rfl) rfl rfl dX3_cellPart_57 ?_
          refine lv_iload_n hx hb dX3_cellPart_60 rfl (lv_at hl 1 rfl) ?_
          refine lv_iload_n hx hb dX3_cellPart_61 rfl (lv_at hl 2 rfl) ?_
          obtain ⟨t7, h8, h⟩ := q_b h
          refine r_cVi C hW (nA := 2) (As := [.int p1, .int p2]) (rest := []) (c_X4_strengthAt l g A (b + 1) x.1 p1 p2 _ h8) gX3_cellPart_X4_strengthAt rfl ⟨rfl, wo_X4_strengthAt⟩ (rmk hR rfl rfl) rfl rfl rfl rfl hl.1 (Nat.le_of_ble_eq_true rfl) rz dX3_cellPart_62 (n := 6) (is := [1]) (rs := [0, 2, 3, 4, 5]) (bs' := [[(A b, .inr (3, [.ref (A (b + 1)), .ref (A (b + 4)), .ref (A (b + 7)), .ref (A (b + 10)), .ref (A (b + 11)), .int x.2.2.2.2.2.1, .int x.2.2.2.2.2.2.1, .int x.2.2.2.2.2.2.2.1, .int x.2.2.2.2.2.2.2.2.1, .int x.2.2.2.2.2.2.2.2.2]))], wX4 g A (b + 1) x.1, wX4 g A (b + 4) x.2.1, wX4 g A (b + 7) x.2.2.1, [(A (b + 10), .inl (gI g, 3, .inl x.2.2.2.1))], [(A (b + 11), .inl (gI g, 2, .inl x.2.2.2.2.1))]]) rfl rfl pm_5f1b36ad (List.append_nil _) (List.append_nil _) rfl (fun H locs hW => ?_)
          cases h
          exact E _ _ _ _ _ hW rfl rfl dX3_cellPart_65
        · replace h := q_f e6 h
          by_cases e9 : p3 = 2
          · replace h := q_t e9 h
            have tb := tb_in e9 (lo := 0) (hi := 6) (offs := #[43, 55, 65, 77, 87, 97, 108]) (off := 65) (by decide)
            refine lv_tableIn (tgt := 66) hx hb dX3_cellPart_1 tb.1 tb.2.1 tb.2.2 (by decide) ?_
            refine lv_aload_n hx hb dX3_cellPart_66 rfl (lv_at hl 0 rfl) ?_
            refine r_get C hW (K := RX3) (T := TX3) (N := 10) (v := .ref (A (b + 4))) 0 0 1 rfl rfl rfl inX3_cellPart_X3 (by decide) (List.mem_of_getElem? (i := 2) rfl) rfl rfl dX3_cellPart_67 ?_
            refine lv_iload_n hx hb dX3_cellPart_70 rfl (lv_at hl 1 rfl) ?_
            refine lv_iload_n hx hb dX3_cellPart_71 rfl (lv_at hl 2 rfl) ?_
            refine lv_bipush (v := (-6)) hx hb dX3_cellPart_72 (by decide) ?_
            obtain ⟨t10, h11, h⟩ := q_b h
            refine r_cVi C hW (nA := 3) (As := [.int p1, .int p2, .int (-6)]) (rest := []) (c_X4_kindOr l g A (b + 4) x.2.1 p1 p2 (-6) _ h11) gX3_cellPart_X4_kindOr rfl ⟨rfl, wo_X4_kindOr⟩ (rmk hR rfl rfl) rfl rfl rfl rfl hl.1 (Nat.le_of_ble_eq_true rfl) rz dX3_cellPart_74 (n := 6) (is := [2]) (rs := [0, 1, 3, 4, 5]) (bs' := [[(A b, .inr (3, [.ref (A (b + 1)), .ref (A (b + 4)), .ref (A (b + 7)), .ref (A (b + 10)), .ref (A (b + 11)), .int x.2.2.2.2.2.1, .int x.2.2.2.2.2.2.1, .int x.2.2.2.2.2.2.2.1, .int x.2.2.2.2.2.2.2.2.1, .int x.2.2.2.2.2.2.2.2.2]))], wX4 g A (b + 1) x.1, wX4 g A (b + 4) x.2.1, wX4 g A (b + 7) x.2.2.1, [(A (b + 10), .inl (gI g, 3, .inl x.2.2.2.1))], [(A (b + 11), .inl (gI g, 2, .inl x.2.2.2.2.1))]]) rfl rfl pm_5105827f (List.append_nil _) (List.append_nil _) rfl (fun H locs hW => ?_)
            cases h
            exact E _ _ _ _ _ hW rfl rfl dX3_cellPart_77
          · replace h := q_f e9 h
            by_cases e12 : p3 = 3
            · replace h := q_t e12 h
              have tb := tb_in e12 (lo := 0) (hi := 6) (offs := #[43, 55, 65, 77, 87, 97, 108]) (off := 77) (by decide)
              refine lv_tableIn (tgt := 78) hx hb dX3_cellPart_1 tb.1 tb.2.1 tb.2.2 (by decide) ?_
              refine lv_aload_n hx hb dX3_cellPart_78 rfl (lv_at hl 0 rfl) ?_
              refine r_get C hW (K := RX3) (T := TX3) (N := 10) (v := .ref (A (b + 4))) 0 0 1 rfl rfl rfl inX3_cellPart_X3 (by decide) (List.mem_of_getElem? (i := 2) rfl) rfl rfl dX3_cellPart_79 ?_
              refine lv_iload_n hx hb dX3_cellPart_82 rfl (lv_at hl 1 rfl) ?_
              refine lv_iload_n hx hb dX3_cellPart_83 rfl (lv_at hl 2 rfl) ?_
              obtain ⟨t13, h14, h⟩ := q_b h
              refine r_cVi C hW (nA := 2) (As := [.int p1, .int p2]) (rest := []) (c_X4_strengthAt l g A (b + 4) x.2.1 p1 p2 _ h14) gX3_cellPart_X4_strengthAt rfl ⟨rfl, wo_X4_strengthAt⟩ (rmk hR rfl rfl) rfl rfl rfl rfl hl.1 (Nat.le_of_ble_eq_true rfl) rz dX3_cellPart_84 (n := 6) (is := [2]) (rs := [0, 1, 3, 4, 5]) (bs' := [[(A b, .inr (3, [.ref (A (b + 1)), .ref (A (b + 4)), .ref (A (b + 7)), .ref (A (b + 10)), .ref (A (b + 11)), .int x.2.2.2.2.2.1, .int x.2.2.2.2.2.2.1, .int x.2.2.2.2.2.2.2.1, .int x.2.2.2.2.2.2.2.2.1, .int x.2.2.2.2.2.2.2.2.2]))], wX4 g A (b + 1) x.1, wX4 g A (b + 4) x.2.1, wX4 g A (b + 7) x.2.2.1, [(A (b + 10), .inl (gI g, 3, .inl x.2.2.2.1))], [(A (b + 11), .inl (gI g, 2, .inl x.2.2.2.2.1))]]) rfl rfl pm_5105827f (List.append_nil _) (List.append_nil _) rfl (fun H locs hW => ?_)
              cases h
              exact E _ _ _ _ _ hW rfl rfl dX3_cellPart_87
            · replace h := q_f e12 h
              by_cases e15 : p3 = 4
              · replace h := q_t e15 h
                have tb := tb_in e15 (lo := 0) (hi := 6) (offs := #[43, 55, 65, 77, 87, 97, 108]) (off := 87) (by decide)
                refine lv_tableIn (tgt := 88) hx hb dX3_cellPart_1 tb.1 tb.2.1 tb.2.2 (by decide) ?_
                refine lv_aload_n hx hb dX3_cellPart_88 rfl (lv_at hl 0 rfl) ?_
                refine lv_iload_n hx hb dX3_cellPart_89 rfl (lv_at hl 1 rfl) ?_
                refine lv_iload_n hx hb dX3_cellPart_90 rfl (lv_at hl 2 rfl) ?_
                obtain ⟨t16, h17, h⟩ := q_b h
                refine r_cVi C hW (nA := 2) (As := [.int p1, .int p2]) (rest := []) (c_X3_canRead l g A b x p1 p2 _ h17) gX3_cellPart_X3_canRead rfl ⟨rfl, wo_X3_canRead⟩ (rmk hR rfl rfl) rfl rfl rfl rfl hl.1 (Nat.le_of_ble_eq_true rfl) rz dX3_cellPart_91 (n := 6) (is := [0, 1, 2, 3, 4, 5]) (rs := []) (bs' := [[(A b, .inr (3, [.ref (A (b + 1)), .ref (A (b + 4)), .ref (A (b + 7)), .ref (A (b + 10)), .ref (A (b + 11)), .int x.2.2.2.2.2.1, .int x.2.2.2.2.2.2.1, .int x.2.2.2.2.2.2.2.1, .int x.2.2.2.2.2.2.2.2.1, .int x.2.2.2.2.2.2.2.2.2]))], wX4 g A (b + 1) x.1, wX4 g A (b + 4) x.2.1, wX4 g A (b + 7) x.2.2.1, [(A (b + 10), .inl (gI g, 3, .inl x.2.2.2.1))], [(A (b + 11), .inl (gI g, 2, .inl x.2.2.2.2.1))]]) rfl rfl pm_232c3c4a rfl rfl rfl (fun H locs hW => ?_)
                obtain ⟨t18, h19, h⟩ := q_b h
                refine r_cNi C hW (nA := 1) (As := [.int t16]) (rest := []) (c_X5_asNumber l g t16 _ h19) gX3_cellPart_X5_asNumber_n112 rfl (List.mem_of_getElem? (i := 10) rfl) (List.mem_of_getElem? (i := 21) rfl) (List.mem_of_getElem? (i := 20) rfl) wo_X5_asNumber (rmk hR rfl rfl) rfl rfl hl.1 (Nat.le_of_ble_eq_true rfl) rz dX3_cellPart_94 (n := 6) (is := []) (rs := [0, 1, 2, 3, 4, 5]) (bs' := [[(A b, .inr (3, [.ref (A (b + 1)), .ref (A (b + 4)), .ref (A (b + 7)), .ref (A (b + 10)), .ref (A (b + 11)), .int x.2.2.2.2.2.1, .int x.2.2.2.2.2.2.1, .int x.2.2.2.2.2.2.2.1, .int x.2.2.2.2.2.2.2.2.1, .int x.2.2.2.2.2.2.2.2.2]))], wX4 g A (b + 1) x.1, wX4 g A (b + 4) x.2.1, wX4 g A (b + 7) x.2.2.1, [(A (b + 10), .inl (gI g, 3, .inl x.2.2.2.1))], [(A (b + 11), .inl (gI g, 2, .inl x.2.2.2.2.1))]]) rfl rfl pm_071a2d01 rfl rfl rfl (fun H locs hW => ?_)
                cases h
                exact E _ _ _ _ _ hW rfl rfl dX3_cellPart_97
              · replace h := q_f e15 h
                by_cases e20 : p3 = 5
                · replace h := q_t e20 h
                  have tb := tb_in e20 (lo := 0) (hi := 6) (offs := #[43, 55, 65, 77, 87, 97, 108]) (off := 97) (by decide)
                  refine lv_tableIn (tgt := 98) hx hb dX3_cellPart_1 tb.1 tb.2.1 tb.2.2 (by decide) ?_
                  refine lv_aload_n hx hb dX3_cellPart_98 rfl (lv_at hl 0 rfl) ?_
                  refine lv_iload_n hx hb dX3_cellPart_99 rfl (lv_at hl 1 rfl) ?_
                  refine lv_iload_n hx hb dX3_cellPart_100 rfl (lv_at hl 2 rfl) ?_
                  refine lv_iconst (v := 0) hx hb dX3_cellPart_101 (by decide) ?_
                  obtain ⟨t21, h22, h⟩ := q_b h
                  refine r_cVi C hW (nA := 3) (As := [.int p1, .int p2, .int 0]) (rest := []) (c_X3_isFree l g A b x p1 p2 0 _ h22) gX3_cellPart_X3_isFree rfl ⟨rfl, wo_X3_isFree⟩ (rmk hR rfl rfl) rfl rfl rfl rfl hl.1 (Nat.le_of_ble_eq_true rfl) rz dX3_cellPart_102 (n := 6) (is := [0, 1, 2, 3, 4, 5]) (rs := []) (bs' := [[(A b, .inr (3, [.ref (A (b + 1)), .ref (A (b + 4)), .ref (A (b + 7)), .ref (A (b + 10)), .ref (A (b + 11)), .int x.2.2.2.2.2.1, .int x.2.2.2.2.2.2.1, .int x.2.2.2.2.2.2.2.1, .int x.2.2.2.2.2.2.2.2.1, .int x.2.2.2.2.2.2.2.2.2]))], wX4 g A (b + 1) x.1, wX4 g A (b + 4) x.2.1, wX4 g A (b + 7) x.2.2.1, [(A (b + 10), .inl (gI g, 3, .inl x.2.2.2.1))], [(A (b + 11), .inl (gI g, 2, .inl x.2.2.2.2.1))]]) rfl rfl pm_232c3c4a rfl rfl rfl (fun H locs hW => ?_)
                  obtain ⟨t23, h24, h⟩ := q_b h
                  refine r_cNi C hW (nA := 1) (As := [.int t21]) (rest := []) (c_X5_asNumber l g t21 _ h24) gX3_cellPart_X5_asNumber_n112 rfl (List.mem_of_getElem? (i := 10) rfl) (List.mem_of_getElem? (i := 21) rfl) (List.mem_of_getElem? (i := 20) rfl) wo_X5_asNumber (rmk hR rfl rfl) rfl rfl hl.1 (Nat.le_of_ble_eq_true rfl) rz dX3_cellPart_105 (n := 6) (is := []) (rs := [0, 1, 2, 3, 4, 5]) (bs' := [[(A b, .inr (3, [.ref (A (b + 1)), .ref (A (b + 4)), .ref (A (b + 7)), .ref (A (b + 10)), .ref (A (b + 11)), .int x.2.2.2.2.2.1, .int x.2.2.2.2.2.2.1, .int x.2.2.2.2.2.2.2.1, .int x.2.2.2.2.2.2.2.2.1, .int x.2.2.2.2.2.2.2.2.2]))], wX4 g A (b + 1) x.1, wX4 g A (b + 4) x.2.1, wX4 g A (b + 7) x.2.2.1, [(A (b + 10), .inl (gI g, 3, .inl x.2.2.2.1))], [(A (b + 11), .inl (gI g, 2, .inl x.2.2.2.2.1))]]) rfl rfl pm_071a2d01 rfl rfl rfl (fun H locs hW => ?_)
                  cases h
                  exact E _ _ _ _ _ hW rfl rfl dX3_cellPart_108
                · replace h := q_f e20 h
                  by_cases e25 : p3 = 6
                  · replace h := q_t e25 h
                    have tb := tb_in e25 (lo := 0) (hi := 6) (offs := #[43, 55, 65, 77, 87, 97, 108]) (off := 108) (by decide)
                    refine lv_tableIn (tgt := 109) hx hb dX3_cellPart_1 tb.1 tb.2.1 tb.2.2 (by decide) ?_
                    refine lv_aload_n hx hb dX3_cellPart_109 rfl (lv_at hl 0 rfl) ?_
                    refine lv_iload_n hx hb dX3_cellPart_110 rfl (lv_at hl 1 rfl) ?_
                    refine lv_iload_n hx hb dX3_cellPart_111 rfl (lv_at hl 2 rfl) ?_
                    refine lv_iconst (v := 1) hx hb dX3_cellPart_112 (by decide) ?_
                    obtain ⟨t26, h27, h⟩ := q_b h
                    refine r_cVi C hW (nA := 3) (As := [.int p1, .int p2, .int 1]) (rest := []) (c_X3_isFree l g A b x p1 p2 1 _ h27) gX3_cellPart_X3_isFree rfl ⟨rfl, wo_X3_isFree⟩ (rmk hR rfl rfl) rfl rfl rfl rfl hl.1 (Nat.le_of_ble_eq_true rfl) rz dX3_cellPart_113 (n := 6) (is := [0, 1, 2, 3, 4, 5]) (rs := []) (bs' := [[(A b, .inr (3, [.ref (A (b + 1)), .ref (A (b + 4)), .ref (A (b + 7)), .ref (A (b + 10)), .ref (A (b + 11)), .int x.2.2.2.2.2.1, .int x.2.2.2.2.2.2.1, .int x.2.2.2.2.2.2.2.1, .int x.2.2.2.2.2.2.2.2.1, .int x.2.2.2.2.2.2.2.2.2]))], wX4 g A (b + 1) x.1, wX4 g A (b + 4) x.2.1, wX4 g A (b + 7) x.2.2.1, [(A (b + 10), .inl (gI g, 3, .inl x.2.2.2.1))], [(A (b + 11), .inl (gI g, 2, .inl x.2.2.2.2.1))]]) rfl rfl pm_232c3c4a rfl rfl rfl (fun H locs hW => ?_)
                    obtain ⟨t28, h29, h⟩ := q_b h
                    refine r_cNi C hW (nA := 1) (As := [.int t26]) (rest := []) (c_X5_asNumber l g t26 _ h29) gX3_cellPart_X5_asNumber_n112 rfl (List.mem_of_getElem? (i := 10) rfl) (List.mem_of_getElem? (i := 21) rfl) (List.mem_of_getElem? (i := 20) rfl) wo_X5_asNumber (rmk hR rfl rfl) rfl rfl hl.1 (Nat.le_of_ble_eq_true rfl) rz dX3_cellPart_116 (n := 6) (is := []) (rs := [0, 1, 2, 3, 4, 5]) (bs' := [[(A b, .inr (3, [.ref (A (b + 1)), .ref (A (b + 4)), .ref (A (b + 7)), .ref (A (b + 10)), .ref (A (b + 11)), .int x.2.2.2.2.2.1, .int x.2.2.2.2.2.2.1, .int x.2.2.2.2.2.2.2.1, .int x.2.2.2.2.2.2.2.2.1, .int x.2.2.2.2.2.2.2.2.2]))], wX4 g A (b + 1) x.1, wX4 g A (b + 4) x.2.1, wX4 g A (b + 7) x.2.2.1, [(A (b + 10), .inl (gI g, 3, .inl x.2.2.2.1))], [(A (b + 11), .inl (gI g, 2, .inl x.2.2.2.2.1))]]) rfl rfl pm_071a2d01 rfl rfl rfl (fun H locs hW => ?_)
                    cases h
                    exact E _ _ _ _ _ hW rfl rfl dX3_cellPart_119
                  · replace h := q_f e25 h
                    cases h
def f_X3_linePart (x : TX3s) (p1 : Int32) (p2 : Int32) (p3 : Int32) : Option (Int32) :=
if p3 = 0 then (
(f_X3_dashAt x p1 p2).bind fun t4 =>
some t4)
else (
(f_X4_strengthAt x.2.2.1 p1 p2).bind fun t2 =>
some t2)
theorem wo_X3_linePart : wordsOk yX3_linePart 3 := by decide +kernel
theorem inX3_linePart_X3 : ∀ w ∈ wsX30, w ∈ wsX3_linePart := fun _ h => List.mem_cons_of_mem _ (List.mem_append_left _ (List.mem_append_right _ h))
set_option maxHeartbeats 4000000 in
set_option maxRecDepth 100000 in
theorem c_X3_linePart (l : Launch) (g : GG) (A : Nat → Nat) (b : Nat) (x : TX3s) (p1 : Int32) (p2 : Int32) (p3 : Int32) (r : Int32) (h : f_X3_linePart x p1 p2 p3 = some r) : CI l yX3_linePart wsX3_linePart 2 46 g [.ref (A b), .int p1, .int p2, .int p3] (wX3 g A b x) r (wX3 g A b x) := by
  refine CI.mk (own := RX3) (by decide) rfl rfl (Nat.le_of_ble_eq_true rfl) ?_
  intro p e R s m args below meth c Z Q C E hR H hW ls hl
  have hx := C.1.1
  have hb := C.1.2.1
  have hown := C.1.2.2.2.1
  replace hW : WdG g Z s.heap H [] [[(A b, .inr (3, [.ref (A (b + 1)), .ref (A (b + 4)), .ref (A (b + 7)), .ref (A (b + 10)), .ref (A (b + 11)), .int x.2.2.2.2.2.1, .int x.2.2.2.2.2.2.1, .int x.2.2.2.2.2.2.2.1, .int x.2.2.2.2.2.2.2.2.1, .int x.2.2.2.2.2.2.2.2.2]))], wX4 g A (b + 1) x.1, wX4 g A (b + 4) x.2.1, wX4 g A (b + 7) x.2.2.1, [(A (b + 10), .inl (gI g, 3, .inl x.2.2.2.1))], [(A (b + 11), .inl (gI g, 2, .inl x.2.2.2.2.1))]] := hW.re rfl
  replace hl : lv_has ls 4 [(0, .ref (A b)), (1, .int p1), (2, .int p2), (3, .int p3)] := hl
  unfold f_X3_linePart at h
  refine lv_iload_n hx hb dX3_linePart_0 rfl (lv_at hl 3 rfl) ?_
  refine lv_if_ne (tgt := 13) hx hb dX3_linePart_1 (by decide) (fun e1 => ?_) (fun e1 => ?_)
  · replace h := q_f e1 h
    refine lv_aload_n hx hb dX3_linePart_13 rfl (lv_at hl 0 rfl) ?_
    refine r_get C hW (K := RX3) (T := TX3) (N := 10) (v := .ref (A (b + 7))) 0 0 2 rfl rfl rfl inX3_linePart_X3 (by decide) (List.mem_of_getElem? (i := 1) rfl) rfl rfl dX3_linePart_14 ?_
    refine lv_iload_n hx hb dX3_linePart_17 rfl (lv_at hl 1 rfl) ?_
    refine lv_iload_n hx hb dX3_linePart_18 rfl (lv_at hl 2 rfl) ?_
    obtain ⟨t2, h3, h⟩ := q_b h
    refine r_cVi C hW (nA := 2) (As := [.int p1, .int p2]) (rest := []) (c_X4_strengthAt l g A (b + 7) x.2.2.1 p1 p2 _ h3) gX3_linePart_X4_strengthAt rfl ⟨rfl, wo_X4_strengthAt⟩ (rmk hR rfl rfl) rfl rfl rfl rfl hl.1 (Nat.le_of_ble_eq_true rfl) rz dX3_linePart_19 (n := 6) (is := [3]) (rs := [0, 1, 2, 4, 5]) (bs' := [[(A b, .inr (3, [.ref (A (b + 1)), .ref (A (b + 4)), .ref (A (b + 7)), .ref (A (b + 10)), .ref (A (b + 11)), .int x.2.2.2.2.2.1, .int x.2.2.2.2.2.2.1, .int x.2.2.2.2.2.2.2.1, .int x.2.2.2.2.2.2.2.2.1, .int x.2.2.2.2.2.2.2.2.2]))], wX4 g A (b + 1) x.1, wX4 g A (b + 4) x.2.1, wX4 g A (b + 7) x.2.2.1, [(A (b + 10), .inl (gI g, 3, .inl x.2.2.2.1))], [(A (b + 11), .inl (gI g, 2, .inl x.2.2.2.2.1))]]) rfl rfl pm_c3f8ed8c (List.append_nil _) (List.append_nil _) rfl (fun H locs hW => ?_)
    cases h
    exact E _ _ _ _ _ hW rfl rfl dX3_linePart_22
  · replace h := q_t e1 h
    refine lv_aload_n hx hb dX3_linePart_4 rfl (lv_at hl 0 rfl) ?_
    refine lv_iload_n hx hb dX3_linePart_5 rfl (lv_at hl 1 rfl) ?_
    refine lv_iload_n hx hb dX3_linePart_6 rfl (lv_at hl 2 rfl) ?_
    obtain ⟨t4, h5, h⟩ := q_b h
    refine r_cVi C hW (nA := 2) (As := [.int p1, .int p2]) (rest := []) (c_X3_dashAt l g A b x p1 p2 _ h5) gX3_linePart_X3_dashAt rfl ⟨rfl, wo_X3_dashAt⟩ (rmk hR rfl rfl) rfl rfl rfl rfl hl.1 (Nat.le_of_ble_eq_true rfl) rz dX3_linePart_7 (n := 6) (is := [0, 1, 2, 3, 4, 5]) (rs := []) (bs' := [[(A b, .inr (3, [.ref (A (b + 1)), .ref (A (b + 4)), .ref (A (b + 7)), .ref (A (b + 10)), .ref (A (b + 11)), .int x.2.2.2.2.2.1, .int x.2.2.2.2.2.2.1, .int x.2.2.2.2.2.2.2.1, .int x.2.2.2.2.2.2.2.2.1, .int x.2.2.2.2.2.2.2.2.2]))], wX4 g A (b + 1) x.1, wX4 g A (b + 4) x.2.1, wX4 g A (b + 7) x.2.2.1, [(A (b + 10), .inl (gI g, 3, .inl x.2.2.2.1))], [(A (b + 11), .inl (gI g, 2, .inl x.2.2.2.2.1))]]) rfl rfl pm_232c3c4a rfl rfl rfl (fun H locs hW => ?_)
    refine lv_goto (tgt := 22) hx hb dX3_linePart_10 (by decide) ?_
    cases h
    exact E _ _ _ _ _ hW rfl rfl dX3_linePart_22
def f_X3_sumOfStrengths (x : TX3s) : Option (Int32) :=
(f_X4_sumOfStrengths x.1).bind fun t1 =>
(f_X4_sumOfStrengths x.2.1).bind fun t3 =>
(f_X4_sumOfStrengths x.2.2.1).bind fun t5 =>
some ((t1 + t3) + t5)
theorem wo_X3_sumOfStrengths : wordsOk yX3_sumOfStrengths 0 := by decide +kernel
theorem inX3_sumOfStrengths_X3 : ∀ w ∈ wsX30, w ∈ wsX3_sumOfStrengths := fun _ h => List.mem_cons_of_mem _ (List.mem_append_left _ (List.mem_append_right _ h))
set_option maxHeartbeats 4000000 in
set_option maxRecDepth 100000 in
theorem c_X3_sumOfStrengths (l : Launch) (g : GG) (A : Nat → Nat) (b : Nat) (x : TX3s) (r : Int32) (h : f_X3_sumOfStrengths x = some r) : CI l yX3_sumOfStrengths wsX3_sumOfStrengths 1 22 g [.ref (A b)] (wX3 g A b x) r (wX3 g A b x) := by
  refine CI.mk (own := RX3) (by decide) rfl rfl (Nat.le_of_ble_eq_true rfl) ?_
  intro p e R s m args below meth c Z Q C E hR H hW ls hl
  have hx := C.1.1
  have hb := C.1.2.1
  have hown := C.1.2.2.2.1
  replace hW : WdG g Z s.heap H [] [[(A b, .inr (3, [.ref (A (b + 1)), .ref (A (b + 4)), .ref (A (b + 7)), .ref (A (b + 10)), .ref (A (b + 11)), .int x.2.2.2.2.2.1, .int x.2.2.2.2.2.2.1, .int x.2.2.2.2.2.2.2.1, .int x.2.2.2.2.2.2.2.2.1, .int x.2.2.2.2.2.2.2.2.2]))], wX4 g A (b + 1) x.1, wX4 g A (b + 4) x.2.1, wX4 g A (b + 7) x.2.2.1, [(A (b + 10), .inl (gI g, 3, .inl x.2.2.2.1))], [(A (b + 11), .inl (gI g, 2, .inl x.2.2.2.2.1))]] := hW.re rfl
  replace hl : lv_has ls 1 [(0, .ref (A b))] := hl
  unfold f_X3_sumOfStrengths at h
  refine lv_aload_n hx hb dX3_sumOfStrengths_0 rfl (lv_at hl 0 rfl) ?_
  refine r_get C hW (K := RX3) (T := TX3) (N := 10) (v := .ref (A (b + 1))) 0 0 0 rfl rfl rfl inX3_sumOfStrengths_X3 (by decide) (List.mem_of_getElem? (i := 1) rfl) rfl rfl dX3_sumOfStrengths_1 ?_
  obtain ⟨t1, h2, h⟩ := q_b h
  refine r_cVi C hW (nA := 0) (As := []) (rest := []) (c_X4_sumOfStrengths l g A (b + 1) x.1 _ h2) gX3_sumOfStrengths_X4_sumOfStrengths rfl ⟨rfl, wo_X4_sumOfStrengths⟩ (rmk hR rfl rfl) rfl rfl rfl rfl hl.1 (Nat.le_of_ble_eq_true rfl) rz dX3_sumOfStrengths_4 (n := 6) (is := [1]) (rs := [0, 2, 3, 4, 5]) (bs' := [[(A b, .inr (3, [.ref (A (b + 1)), .ref (A (b + 4)), .ref (A (b + 7)), .ref (A (b + 10)), .ref (A (b + 11)), .int x.2.2.2.2.2.1, .int x.2.2.2.2.2.2.1, .int x.2.2.2.2.2.2.2.1, .int x.2.2.2.2.2.2.2.2.1, .int x.2.2.2.2.2.2.2.2.2]))], wX4 g A (b + 1) x.1, wX4 g A (b + 4) x.2.1, wX4 g A (b + 7) x.2.2.1, [(A (b + 10), .inl (gI g, 3, .inl x.2.2.2.1))], [(A (b + 11), .inl (gI g, 2, .inl x.2.2.2.2.1))]]) rfl rfl pm_5f1b36ad (List.append_nil _) (List.append_nil _) rfl (fun H locs hW => ?_)
  refine lv_aload_n hx hb dX3_sumOfStrengths_7 rfl (lv_at hl 0 rfl) ?_
  refine r_get C hW (K := RX3) (T := TX3) (N := 10) (v := .ref (A (b + 4))) 0 0 1 rfl rfl rfl inX3_sumOfStrengths_X3 (by decide) (List.mem_of_getElem? (i := 2) rfl) rfl rfl dX3_sumOfStrengths_8 ?_
  obtain ⟨t3, h4, h⟩ := q_b h
  refine r_cVi C hW (nA := 0) (As := []) (rest := [.int t1]) (c_X4_sumOfStrengths l g A (b + 4) x.2.1 _ h4) gX3_sumOfStrengths_X4_sumOfStrengths rfl ⟨rfl, wo_X4_sumOfStrengths⟩ (rmk hR rfl rfl) rfl rfl rfl rfl hl.1 (Nat.le_of_ble_eq_true rfl) rz dX3_sumOfStrengths_11 (n := 6) (is := [2]) (rs := [0, 1, 3, 4, 5]) (bs' := [[(A b, .inr (3, [.ref (A (b + 1)), .ref (A (b + 4)), .ref (A (b + 7)), .ref (A (b + 10)), .ref (A (b + 11)), .int x.2.2.2.2.2.1, .int x.2.2.2.2.2.2.1, .int x.2.2.2.2.2.2.2.1, .int x.2.2.2.2.2.2.2.2.1, .int x.2.2.2.2.2.2.2.2.2]))], wX4 g A (b + 1) x.1, wX4 g A (b + 4) x.2.1, wX4 g A (b + 7) x.2.2.1, [(A (b + 10), .inl (gI g, 3, .inl x.2.2.2.1))], [(A (b + 11), .inl (gI g, 2, .inl x.2.2.2.2.1))]]) rfl rfl pm_5105827f (List.append_nil _) (List.append_nil _) rfl (fun H locs hW => ?_)
  refine lv_iadd hx hb dX3_sumOfStrengths_14 ?_
  refine lv_aload_n hx hb dX3_sumOfStrengths_15 rfl (lv_at hl 0 rfl) ?_
  refine r_get C hW (K := RX3) (T := TX3) (N := 10) (v := .ref (A (b + 7))) 0 0 2 rfl rfl rfl inX3_sumOfStrengths_X3 (by decide) (List.mem_of_getElem? (i := 3) rfl) rfl rfl dX3_sumOfStrengths_16 ?_
  obtain ⟨t5, h6, h⟩ := q_b h
  refine r_cVi C hW (nA := 0) (As := []) (rest := [.int (t1 + t3)]) (c_X4_sumOfStrengths l g A (b + 7) x.2.2.1 _ h6) gX3_sumOfStrengths_X4_sumOfStrengths rfl ⟨rfl, wo_X4_sumOfStrengths⟩ (rmk hR rfl rfl) rfl rfl rfl rfl hl.1 (Nat.le_of_ble_eq_true rfl) rz dX3_sumOfStrengths_19 (n := 6) (is := [3]) (rs := [0, 1, 2, 4, 5]) (bs' := [[(A b, .inr (3, [.ref (A (b + 1)), .ref (A (b + 4)), .ref (A (b + 7)), .ref (A (b + 10)), .ref (A (b + 11)), .int x.2.2.2.2.2.1, .int x.2.2.2.2.2.2.1, .int x.2.2.2.2.2.2.2.1, .int x.2.2.2.2.2.2.2.2.1, .int x.2.2.2.2.2.2.2.2.2]))], wX4 g A (b + 1) x.1, wX4 g A (b + 4) x.2.1, wX4 g A (b + 7) x.2.2.1, [(A (b + 10), .inl (gI g, 3, .inl x.2.2.2.1))], [(A (b + 11), .inl (gI g, 2, .inl x.2.2.2.2.1))]]) rfl rfl pm_c3f8ed8c (List.append_nil _) (List.append_nil _) rfl (fun H locs hW => ?_)
  refine lv_iadd hx hb dX3_sumOfStrengths_22 ?_
  cases h
  exact E _ _ _ _ _ hW rfl rfl dX3_sumOfStrengths_23
def f_X5_isWithin (p1 : Int32) (p2 : Int32) (p3 : Int32) : Option (Int32) :=
if p1 < p2 then (
some 0)
else (
if p3 < p1 then (
some 0)
else (
some 1))
theorem wo_X5_isWithin : wordsOk yX5_isWithin 3 := by decide +kernel
set_option maxHeartbeats 4000000 in
set_option maxRecDepth 100000 in
theorem c_X5_isWithin (l : Launch) (g : GG) (p1 : Int32) (p2 : Int32) (p3 : Int32) (r : Int32) (h : f_X5_isWithin p1 p2 p3 = some r) : CI l yX5_isWithin wsX5_isWithin 0 0 g [.int p1, .int p2, .int p3] ([]) r ([]) := by
  refine CI.mk (own := RX5) (by decide) rfl rfl (Nat.le_of_ble_eq_true rfl) ?_
  intro p e R s m args below meth c Z Q C E hR H hW ls hl
  have hx := C.1.1
  have hb := C.1.2.1
  have hown := C.1.2.2.2.1
  replace hW : WdG g Z s.heap H [] [] := hW.re rfl
  replace hl : lv_has ls 3 [(0, .int p1), (1, .int p2), (2, .int p3)] := hl
  unfold f_X5_isWithin at h
  refine lv_iload_n hx hb dX5_isWithin_0 rfl (lv_at hl 0 rfl) ?_
  refine lv_iload_n hx hb dX5_isWithin_1 rfl (lv_at hl 1 rfl) ?_
  refine lv_icmp_lt (tgt := 14) hx hb dX5_isWithin_2 (by decide) (fun e1 => ?_) (fun e1 => ?_)
  · replace h := q_t e1 h
    refine lv_iconst (v := 0) hx hb dX5_isWithin_14 (by decide) ?_
    cases h
    exact E _ _ _ _ _ hW rfl rfl dX5_isWithin_15
  · replace h := q_f e1 h
    refine lv_iload_n hx hb dX5_isWithin_5 rfl (lv_at hl 0 rfl) ?_
    refine lv_iload_n hx hb dX5_isWithin_6 rfl (lv_at hl 2 rfl) ?_
    refine lv_icmp_gt (tgt := 14) hx hb dX5_isWithin_7 (by decide) (fun e2 => ?_) (fun e2 => ?_)
    · replace h := q_t e2 h
      refine lv_iconst (v := 0) hx hb dX5_isWithin_14 (by decide) ?_
      cases h
      exact E _ _ _ _ _ hW rfl rfl dX5_isWithin_15
    · replace h := q_f e2 h
      refine lv_iconst (v := 1) hx hb dX5_isWithin_10 (by decide) ?_
      refine lv_goto (tgt := 15) hx hb dX5_isWithin_11 (by decide) ?_
      cases h
      exact E _ _ _ _ _ hW rfl rfl dX5_isWithin_15
def f_X3_nearestArrow_l3 (x : TX3s) (p1 : Int32) (p2 : Int32) (p3 : Int32) (k3 : Int32 → Option (Int32)) (v3 : Int32) : Option (Int32) :=
if 4 < v3 then (
some (-6))
else (
(f_X5_isWithin (p2 + (v3 * p3)) 0 15).bind fun t2 =>
if t2 = 0 then (
k3 (v3 + 1))
else (
(f_X4_isAt x.1 p1 (p2 + (v3 * p3))).bind fun t5 =>
if t5 = 0 then (
k3 (v3 + 1))
else (
(f_X4_kindOr x.1 p1 (p2 + (v3 * p3)) (-6)).bind fun t8 =>
some t8)))
def f_X3_nearestArrow (x : TX3s) (p1 : Int32) (p2 : Int32) (p3 : Int32) : Option (Int32) :=
lpN (f_X3_nearestArrow_l3 x p1 p2 p3) 3000 1
theorem wo_X3_nearestArrow : wordsOk yX3_nearestArrow 3 := by decide +kernel
theorem inX3_nearestArrow_X3 : ∀ w ∈ wsX30, w ∈ wsX3_nearestArrow := fun _ h => List.mem_cons_of_mem _ (List.mem_append_left _ (List.mem_append_right _ h))
set_option maxHeartbeats 4000000 in
set_option maxRecDepth 100000 in
theorem c_X3_nearestArrow (l : Launch) (g : GG) (A : Nat → Nat) (b : Nat) (x : TX3s) (p1 : Int32) (p2 : Int32) (p3 : Int32) (r : Int32) (h : f_X3_nearestArrow x p1 p2 p3 = some r) : CI l yX3_nearestArrow wsX3_nearestArrow 1 24 g [.ref (A b), .int p1, .int p2, .int p3] (wX3 g A b x) r (wX3 g A b x) := by
  refine CI.mk (own := RX3) (by decide) rfl rfl (Nat.le_of_ble_eq_true rfl) ?_
  intro p e R s m args below meth c Z Q C E hR H hW ls hl
  have hx := C.1.1
  have hb := C.1.2.1
  have hown := C.1.2.2.2.1
  replace hW : WdG g Z s.heap H [] [[(A b, .inr (3, [.ref (A (b + 1)), .ref (A (b + 4)), .ref (A (b + 7)), .ref (A (b + 10)), .ref (A (b + 11)), .int x.2.2.2.2.2.1, .int x.2.2.2.2.2.2.1, .int x.2.2.2.2.2.2.2.1, .int x.2.2.2.2.2.2.2.2.1, .int x.2.2.2.2.2.2.2.2.2]))], wX4 g A (b + 1) x.1, wX4 g A (b + 4) x.2.1, wX4 g A (b + 7) x.2.2.1, [(A (b + 10), .inl (gI g, 3, .inl x.2.2.2.1))], [(A (b + 11), .inl (gI g, 2, .inl x.2.2.2.2.1))]] := hW.re rfl
  replace hl : lv_has ls 6 [(0, .ref (A b)), (1, .int p1), (2, .int p2), (3, .int p3)] := hl
  unfold f_X3_nearestArrow at h
  refine lv_iconst (v := 1) hx hb dX3_nearestArrow_0 (by decide) ?_
  refine lv_istore (lv' := [(4, .int 1), (0, .ref (A b)), (1, .int p1), (2, .int p2), (3, .int p3)]) hx hb dX3_nearestArrow_1 hl (by decide) rfl (fun ls hl => ?_)
  have L3 : ∀ n3 : Nat, ∀ (v3 : Int32), lpN (f_X3_nearestArrow_l3 x p1 p2 p3) n3 v3 = some r → ∀ (H : Heap) (locs : List Loc), WdG g Z s.heap H locs [[(A b, .inr (3, [.ref (A (b + 1)), .ref (A (b + 4)), .ref (A (b + 7)), .ref (A (b + 10)), .ref (A (b + 11)), .int x.2.2.2.2.2.1, .int x.2.2.2.2.2.2.1, .int x.2.2.2.2.2.2.2.1, .int x.2.2.2.2.2.2.2.2.1, .int x.2.2.2.2.2.2.2.2.2]))], wX4 g A (b + 1) x.1, wX4 g A (b + 4) x.2.1, wX4 g A (b + 7) x.2.2.1, [(A (b + 10), .inl (gI g, 3, .inl x.2.2.2.1))], [(A (b + 11), .inl (gI g, 2, .inl x.2.2.2.2.1))]] → ∀ ls : Array Slot, lv_has ls 6 [(0, .ref (A b)), (1, .int p1), (2, .int p2), (3, .int p3), (4, .int v3)] → W p l e R s m args below meth c H locs 0 0 Q (F0 m 3 ls []) := by
    intro n3
    induction n3 with
    | zero => intro v3 h; exact absurd (show none = some r from h) (fun h => by cases h)
    | succ n3 ih3 =>
      intro v3 h H locs hW ls hl
      replace h : f_X3_nearestArrow_l3 x p1 p2 p3 (lpN (f_X3_nearestArrow_l3 x p1 p2 p3) n3) v3 = some r := h
      unfold f_X3_nearestArrow_l3 at h
      refine lv_iload hx hb dX3_nearestArrow_3 (lv_at hl 4 rfl) ?_
      refine lv_iconst (v := 4) hx hb dX3_nearestArrow_5 (by decide) ?_
      refine lv_icmp_gt (tgt := 60) hx hb dX3_nearestArrow_6 (by decide) (fun e1 => ?_) (fun e1 => ?_)
      · replace h := q_t e1 h
        refine lv_bipush (v := (-6)) hx hb dX3_nearestArrow_60 (by decide) ?_
        cases h
        exact E _ _ _ _ _ hW rfl rfl dX3_nearestArrow_62
      · replace h := q_f e1 h
        refine lv_iload_n hx hb dX3_nearestArrow_9 rfl (lv_at hl 2 rfl) ?_
        refine lv_iload hx hb dX3_nearestArrow_10 (lv_at hl 4 rfl) ?_
        refine lv_iload_n hx hb dX3_nearestArrow_12 rfl (lv_at hl 3 rfl) ?_
        refine lv_imul hx hb dX3_nearestArrow_13 ?_
        refine lv_iadd hx hb dX3_nearestArrow_14 ?_
        refine lv_istore (lv' := [(5, .int (p2 + (v3 * p3))), (0, .ref (A b)), (1, .int p1), (2, .int p2), (3, .int p3), (4, .int v3)]) hx hb dX3_nearestArrow_15 hl (by decide) rfl (fun ls hl => ?_)
        refine lv_iload hx hb dX3_nearestArrow_17 (lv_at hl 0 rfl) ?_
        refine lv_iconst (v := 0) hx hb dX3_nearestArrow_19 (by decide) ?_
        refine lv_bipush (v := 15) hx hb dX3_nearestArrow_20 (by decide) ?_
        obtain ⟨t2, h3, h⟩ := q_b h
        refine r_cNi C hW (nA := 3) (As := [.int (p2 + (v3 * p3)), .int 0, .int 15]) (rest := []) (c_X5_isWithin l g (p2 + (v3 * p3)) 0 15 _ h3) gX3_nearestArrow_X5_isWithin_n136 rfl (List.mem_of_getElem? (i := 11) rfl) (List.mem_of_getElem? (i := 3) rfl) (List.mem_of_getElem? (i := 2) rfl) wo_X5_isWithin (rmk hR rfl rfl) rfl rfl hl.1 (Nat.le_of_ble_eq_true rfl) rz dX3_nearestArrow_22 (n := 6) (is := []) (rs := [0, 1, 2, 3, 4, 5]) (bs' := [[(A b, .inr (3, [.ref (A (b + 1)), .ref (A (b + 4)), .ref (A (b + 7)), .ref (A (b + 10)), .ref (A (b + 11)), .int x.2.2.2.2.2.1, .int x.2.2.2.2.2.2.1, .int x.2.2.2.2.2.2.2.1, .int x.2.2.2.2.2.2.2.2.1, .int x.2.2.2.2.2.2.2.2.2]))], wX4 g A (b + 1) x.1, wX4 g A (b + 4) x.2.1, wX4 g A (b + 7) x.2.2.1, [(A (b + 10), .inl (gI g, 3, .inl x.2.2.2.1))], [(A (b + 11), .inl (gI g, 2, .inl x.2.2.2.2.1))]]) rfl rfl pm_071a2d01 rfl rfl rfl (fun H locs hW => ?_)
        refine lv_if_eq (tgt := 54) hx hb dX3_nearestArrow_25 (by decide) (fun e4 => ?_) (fun e4 => ?_)
        · replace h := q_t e4 h
          refine lv_iinc (v := (v3 + 1)) (lv' := [(4, .int (v3 + 1)), (5, .int (p2 + (v3 * p3))), (0, .ref (A b)), (1, .int p1), (2, .int p2), (3, .int p3)]) hx hb dX3_nearestArrow_54 hl (k := 5) rfl rfl (by decide) rfl (fun ls hl => ?_)
          refine lv_goto (tgt := 3) hx hb dX3_nearestArrow_57 (by decide) ?_
          exact ih3 (v3 + 1) h _ _ hW _ (lv_sub hl [2, 3, 4, 5, 0] rfl)
        · replace h := q_f e4 h
          refine lv_aload_n hx hb dX3_nearestArrow_28 rfl (lv_at hl 1 rfl) ?_
          refine r_get C hW (K := RX3) (T := TX3) (N := 10) (v := .ref (A (b + 1))) 0 0 0 rfl rfl rfl inX3_nearestArrow_X3 (by decide) (List.mem_of_getElem? (i := 1) rfl) rfl rfl dX3_nearestArrow_29 ?_
          refine lv_iload_n hx hb dX3_nearestArrow_32 rfl (lv_at hl 2 rfl) ?_
          refine lv_iload hx hb dX3_nearestArrow_33 (lv_at hl 0 rfl) ?_
          obtain ⟨t5, h6, h⟩ := q_b h
          refine r_cVi C hW (nA := 2) (As := [.int p1, .int (p2 + (v3 * p3))]) (rest := []) (c_X4_isAt l g A (b + 1) x.1 p1 (p2 + (v3 * p3)) _ h6) gX3_nearestArrow_X4_isAt rfl ⟨rfl, wo_X4_isAt⟩ (rmk hR rfl rfl) rfl rfl rfl rfl hl.1 (Nat.le_of_ble_eq_true rfl) rz dX3_nearestArrow_35 (n := 6) (is := [1]) (rs := [0, 2, 3, 4, 5]) (bs' := [[(A b, .inr (3, [.ref (A (b + 1)), .ref (A (b + 4)), .ref (A (b + 7)), .ref (A (b + 10)), .ref (A (b + 11)), .int x.2.2.2.2.2.1, .int x.2.2.2.2.2.2.1, .int x.2.2.2.2.2.2.2.1, .int x.2.2.2.2.2.2.2.2.1, .int x.2.2.2.2.2.2.2.2.2]))], wX4 g A (b + 1) x.1, wX4 g A (b + 4) x.2.1, wX4 g A (b + 7) x.2.2.1, [(A (b + 10), .inl (gI g, 3, .inl x.2.2.2.1))], [(A (b + 11), .inl (gI g, 2, .inl x.2.2.2.2.1))]]) rfl rfl pm_5f1b36ad (List.append_nil _) (List.append_nil _) rfl (fun H locs hW => ?_)
          refine lv_if_eq (tgt := 54) hx hb dX3_nearestArrow_38 (by decide) (fun e7 => ?_) (fun e7 => ?_)
          · replace h := q_t e7 h
            refine lv_iinc (v := (v3 + 1)) (lv' := [(4, .int (v3 + 1)), (5, .int (p2 + (v3 * p3))), (0, .ref (A b)), (1, .int p1), (2, .int p2), (3, .int p3)]) hx hb dX3_nearestArrow_54 hl (k := 5) rfl rfl (by decide) rfl (fun ls hl => ?_)
            refine lv_goto (tgt := 3) hx hb dX3_nearestArrow_57 (by decide) ?_
            exact ih3 (v3 + 1) h _ _ hW _ (lv_sub hl [2, 3, 4, 5, 0] rfl)
          · replace h := q_f e7 h
            refine lv_aload_n hx hb dX3_nearestArrow_41 rfl (lv_at hl 1 rfl) ?_
            refine r_get C hW (K := RX3) (T := TX3) (N := 10) (v := .ref (A (b + 1))) 0 0 0 rfl rfl rfl inX3_nearestArrow_X3 (by decide) (List.mem_of_getElem? (i := 1) rfl) rfl rfl dX3_nearestArrow_42 ?_
            refine lv_iload_n hx hb dX3_nearestArrow_45 rfl (lv_at hl 2 rfl) ?_
            refine lv_iload hx hb dX3_nearestArrow_46 (lv_at hl 0 rfl) ?_
            refine lv_bipush (v := (-6)) hx hb dX3_nearestArrow_48 (by decide) ?_
            obtain ⟨t8, h9, h⟩ := q_b h
            refine r_cVi C hW (nA := 3) (As := [.int p1, .int (p2 + (v3 * p3)), .int (-6)]) (rest := []) (c_X4_kindOr l g A (b + 1) x.1 p1 (p2 + (v3 * p3)) (-6) _ h9) gX3_nearestArrow_X4_kindOr rfl ⟨rfl, wo_X4_kindOr⟩ (rmk hR rfl rfl) rfl rfl rfl rfl hl.1 (Nat.le_of_ble_eq_true rfl) rz dX3_nearestArrow_50 (n := 6) (is := [1]) (rs := [0, 2, 3, 4, 5]) (bs' := [[(A b, .inr (3, [.ref (A (b + 1)), .ref (A (b + 4)), .ref (A (b + 7)), .ref (A (b + 10)), .ref (A (b + 11)), .int x.2.2.2.2.2.1, .int x.2.2.2.2.2.2.1, .int x.2.2.2.2.2.2.2.1, .int x.2.2.2.2.2.2.2.2.1, .int x.2.2.2.2.2.2.2.2.2]))], wX4 g A (b + 1) x.1, wX4 g A (b + 4) x.2.1, wX4 g A (b + 7) x.2.2.1, [(A (b + 10), .inl (gI g, 3, .inl x.2.2.2.1))], [(A (b + 11), .inl (gI g, 2, .inl x.2.2.2.2.1))]]) rfl rfl pm_5f1b36ad (List.append_nil _) (List.append_nil _) rfl (fun H locs hW => ?_)
            cases h
            exact E _ _ _ _ _ hW rfl rfl dX3_nearestArrow_53
  exact L3 3000 1 h _ _ hW _ (lv_sub hl [1, 2, 3, 4, 0] rfl)
def f_X3_meetHeadOn (p1 : Int32) (p2 : Int32) : Option (Int32) :=
if p1 = (-6) then (
some 0)
else (
if p2 = (-6) then (
some 0)
else (
if p1 = 1 then (
some 0)
else (
if p2 = 0 then (
some 0)
else (
some 1))))
theorem wo_X3_meetHeadOn : wordsOk yX3_meetHeadOn 2 := by decide +kernel
set_option maxHeartbeats 4000000 in
set_option maxRecDepth 100000 in
theorem c_X3_meetHeadOn (l : Launch) (g : GG) (p1 : Int32) (p2 : Int32) (r : Int32) (h : f_X3_meetHeadOn p1 p2 = some r) : CI l yX3_meetHeadOn wsX3_meetHeadOn 0 0 g [.int p1, .int p2] ([]) r ([]) := by
  refine CI.mk (own := RX3) (by decide) rfl rfl (Nat.le_of_ble_eq_true rfl) ?_
  intro p e R s m args below meth c Z Q C E hR H hW ls hl
  have hx := C.1.1
  have hb := C.1.2.1
  have hown := C.1.2.2.2.1
  replace hW : WdG g Z s.heap H [] [] := hW.re rfl
  replace hl : lv_has ls 2 [(0, .int p1), (1, .int p2)] := hl
  unfold f_X3_meetHeadOn at h
  refine lv_iload_n hx hb dX3_meetHeadOn_0 rfl (lv_at hl 0 rfl) ?_
  refine lv_bipush (v := (-6)) hx hb dX3_meetHeadOn_1 (by decide) ?_
  refine lv_icmp_eq (tgt := 25) hx hb dX3_meetHeadOn_3 (by decide) (fun e1 => ?_) (fun e1 => ?_)
  · replace h := q_t e1 h
    refine lv_iconst (v := 0) hx hb dX3_meetHeadOn_25 (by decide) ?_
    cases h
    exact E _ _ _ _ _ hW rfl rfl dX3_meetHeadOn_26
  · replace h := q_f e1 h
    refine lv_iload_n hx hb dX3_meetHeadOn_6 rfl (lv_at hl 1 rfl) ?_
    refine lv_bipush (v := (-6)) hx hb dX3_meetHeadOn_7 (by decide) ?_
    refine lv_icmp_eq (tgt := 25) hx hb dX3_meetHeadOn_9 (by decide) (fun e2 => ?_) (fun e2 => ?_)
    · replace h := q_t e2 h
      refine lv_iconst (v := 0) hx hb dX3_meetHeadOn_25 (by decide) ?_
      cases h
      exact E _ _ _ _ _ hW rfl rfl dX3_meetHeadOn_26
    · replace h := q_f e2 h
      refine lv_iload_n hx hb dX3_meetHeadOn_12 rfl (lv_at hl 0 rfl) ?_
      refine lv_iconst (v := 1) hx hb dX3_meetHeadOn_13 (by decide) ?_
      refine lv_icmp_eq (tgt := 25) hx hb dX3_meetHeadOn_14 (by decide) (fun e3 => ?_) (fun e3 => ?_)
      · replace h := q_t e3 h
        refine lv_iconst (v := 0) hx hb dX3_meetHeadOn_25 (by decide) ?_
        cases h
        exact E _ _ _ _ _ hW rfl rfl dX3_meetHeadOn_26
      · replace h := q_f e3 h
        refine lv_iload_n hx hb dX3_meetHeadOn_17 rfl (lv_at hl 1 rfl) ?_
        refine lv_if_eq (tgt := 25) hx hb dX3_meetHeadOn_18 (by decide) (fun e4 => ?_) (fun e4 => ?_)
        · replace h := q_t e4 h
          refine lv_iconst (v := 0) hx hb dX3_meetHeadOn_25 (by decide) ?_
          cases h
          exact E _ _ _ _ _ hW rfl rfl dX3_meetHeadOn_26
        · replace h := q_f e4 h
          refine lv_iconst (v := 1) hx hb dX3_meetHeadOn_21 (by decide) ?_
          refine lv_goto (tgt := 26) hx hb dX3_meetHeadOn_22 (by decide) ?_
          cases h
          exact E _ _ _ _ _ hW rfl rfl dX3_meetHeadOn_26
def f_X3_isOpposed_j29 (x : TX3s) (p1 : Int32) (p3 : Int32) (p4 : Int32) (w29 : Int32) : Option (Int32) :=
if w29 = 0 then (
(f_X4_kindOr x.1 p1 p3 (-6)).bind fun t4 =>
(f_X3_otherWay p4).bind fun t6 =>
if t4 = t6 then (
some 1)
else (
some 0))
else (
some 0)
def f_X3_isOpposed_j24 (x : TX3s) (p1 : Int32) (p3 : Int32) (p4 : Int32) (w24 : Unit) : Option (Int32) :=
f_X3_isOpposed_j29 x p1 p3 p4 1
def f_X3_isOpposed (x : TX3s) (p1 : Int32) (p2 : Int32) (p3 : Int32) (p4 : Int32) : Option (Int32) :=
(f_X4_kindOr x.2.2.1 p2 p3 0).bind fun t1 =>
if t1 = 1 then (
f_X3_isOpposed_j24 x p1 p3 p4 ())
else (
if t1 = 3 then (
f_X3_isOpposed_j24 x p1 p3 p4 ())
else (
f_X3_isOpposed_j29 x p1 p3 p4 0))
theorem wo_X3_isOpposed : wordsOk yX3_isOpposed 4 := by decide +kernel
theorem inX3_isOpposed_X3 : ∀ w ∈ wsX30, w ∈ wsX3_isOpposed := fun _ h => List.mem_cons_of_mem _ (List.mem_append_left _ (List.mem_append_right _ h))
set_option maxHeartbeats 4000000 in
set_option maxRecDepth 100000 in
theorem c_X3_isOpposed (l : Launch) (g : GG) (A : Nat → Nat) (b : Nat) (x : TX3s) (p1 : Int32) (p2 : Int32) (p3 : Int32) (p4 : Int32) (r : Int32) (h : f_X3_isOpposed x p1 p2 p3 p4 = some r) : CI l yX3_isOpposed wsX3_isOpposed 1 24 g [.ref (A b), .int p1, .int p2, .int p3, .int p4] (wX3 g A b x) r (wX3 g A b x) := by
  refine CI.mk (own := RX3) (by decide) rfl rfl (Nat.le_of_ble_eq_true rfl) ?_
  intro p e R s m args below meth c Z Q C E hR H hW ls hl
  have hx := C.1.1
  have hb := C.1.2.1
  have hown := C.1.2.2.2.1
  replace hW : WdG g Z s.heap H [] [[(A b, .inr (3, [.ref (A (b + 1)), .ref (A (b + 4)), .ref (A (b + 7)), .ref (A (b + 10)), .ref (A (b + 11)), .int x.2.2.2.2.2.1, .int x.2.2.2.2.2.2.1, .int x.2.2.2.2.2.2.2.1, .int x.2.2.2.2.2.2.2.2.1, .int x.2.2.2.2.2.2.2.2.2]))], wX4 g A (b + 1) x.1, wX4 g A (b + 4) x.2.1, wX4 g A (b + 7) x.2.2.1, [(A (b + 10), .inl (gI g, 3, .inl x.2.2.2.1))], [(A (b + 11), .inl (gI g, 2, .inl x.2.2.2.2.1))]] := hW.re rfl
  replace hl : lv_has ls 7 [(0, .ref (A b)), (1, .int p1), (2, .int p2), (3, .int p3), (4, .int p4)] := hl
  unfold f_X3_isOpposed at h
  refine lv_aload_n hx hb dX3_isOpposed_0 rfl (lv_at hl 0 rfl) ?_
  refine r_get C hW (K := RX3) (T := TX3) (N := 10) (v := .ref (A (b + 7))) 0 0 2 rfl rfl rfl inX3_isOpposed_X3 (by decide) (List.mem_of_getElem? (i := 1) rfl) rfl rfl dX3_isOpposed_1 ?_
  refine lv_iload_n hx hb dX3_isOpposed_4 rfl (lv_at hl 2 rfl) ?_
  refine lv_iload_n hx hb dX3_isOpposed_5 rfl (lv_at hl 3 rfl) ?_
  refine lv_iconst (v := 0) hx hb dX3_isOpposed_6 (by decide) ?_
  obtain ⟨t1, h2, h⟩ := q_b h
  refine r_cVi C hW (nA := 3) (As := [.int p2, .int p3, .int 0]) (rest := []) (c_X4_kindOr l g A (b + 7) x.2.2.1 p2 p3 0 _ h2) gX3_isOpposed_X4_kindOr rfl ⟨rfl, wo_X4_kindOr⟩ (rmk hR rfl rfl) rfl rfl rfl rfl hl.1 (Nat.le_of_ble_eq_true rfl) rz dX3_isOpposed_7 (n := 6) (is := [3]) (rs := [0, 1, 2, 4, 5]) (bs' := [[(A b, .inr (3, [.ref (A (b + 1)), .ref (A (b + 4)), .ref (A (b + 7)), .ref (A (b + 10)), .ref (A (b + 11)), .int x.2.2.2.2.2.1, .int x.2.2.2.2.2.2.1, .int x.2.2.2.2.2.2.2.1, .int x.2.2.2.2.2.2.2.2.1, .int x.2.2.2.2.2.2.2.2.2]))], wX4 g A (b + 1) x.1, wX4 g A (b + 4) x.2.1, wX4 g A (b + 7) x.2.2.1, [(A (b + 10), .inl (gI g, 3, .inl x.2.2.2.1))], [(A (b + 11), .inl (gI g, 2, .inl x.2.2.2.2.1))]]) rfl rfl pm_c3f8ed8c (List.append_nil _) (List.append_nil _) rfl (fun H locs hW => ?_)
  refine lv_istore (lv' := [(5, .int t1), (0, .ref (A b)), (1, .int p1), (2, .int p2), (3, .int p3), (4, .int p4)]) hx hb dX3_isOpposed_10 hl (by decide) rfl (fun ls hl => ?_)
  refine lv_iload hx hb dX3_isOpposed_12 (lv_at hl 0 rfl) ?_
  refine lv_iconst (v := 1) hx hb dX3_isOpposed_14 (by decide) ?_
  have J29 : ∀ (w29 : Int32), f_X3_isOpposed_j29 x p1 p3 p4 w29 = some r → ∀ (H : Heap) (locs : List Loc), WdG g Z s.heap H locs [[(A b, .inr (3, [.ref (A (b + 1)), .ref (A (b + 4)), .ref (A (b + 7)), .ref (A (b + 10)), .ref (A (b + 11)), .int x.2.2.2.2.2.1, .int x.2.2.2.2.2.2.1, .int x.2.2.2.2.2.2.2.1, .int x.2.2.2.2.2.2.2.2.1, .int x.2.2.2.2.2.2.2.2.2]))], wX4 g A (b + 1) x.1, wX4 g A (b + 4) x.2.1, wX4 g A (b + 7) x.2.2.1, [(A (b + 10), .inl (gI g, 3, .inl x.2.2.2.1))], [(A (b + 11), .inl (gI g, 2, .inl x.2.2.2.2.1))]] → ∀ ls : Array Slot, lv_has ls 7 [(0, .ref (A b)), (1, .int p1), (3, .int p3), (4, .int p4)] → W p l e R s m args below meth c H locs 0 0 Q (F0 m 29 ls [.int w29]) := by
    intro w29 h H locs hW ls hl
    unfold f_X3_isOpposed_j29 at h
    refine lv_istore (lv' := [(6, .int w29), (0, .ref (A b)), (1, .int p1), (3, .int p3), (4, .int p4)]) hx hb dX3_isOpposed_29 hl (by decide) rfl (fun ls hl => ?_)
    refine lv_iload hx hb dX3_isOpposed_31 (lv_at hl 0 rfl) ?_
    refine lv_if_ne (tgt := 59) hx hb dX3_isOpposed_33 (by decide) (fun e3 => ?_) (fun e3 => ?_)
    · replace h := q_f e3 h
      refine lv_iconst (v := 0) hx hb dX3_isOpposed_59 (by decide) ?_
      cases h
      exact E _ _ _ _ _ hW rfl rfl dX3_isOpposed_60
    · replace h := q_t e3 h
      refine lv_aload_n hx hb dX3_isOpposed_36 rfl (lv_at hl 1 rfl) ?_
      refine r_get C hW (K := RX3) (T := TX3) (N := 10) (v := .ref (A (b + 1))) 0 0 0 rfl rfl rfl inX3_isOpposed_X3 (by decide) (List.mem_of_getElem? (i := 2) rfl) rfl rfl dX3_isOpposed_37 ?_
      refine lv_iload_n hx hb dX3_isOpposed_40 rfl (lv_at hl 2 rfl) ?_
      refine lv_iload_n hx hb dX3_isOpposed_41 rfl (lv_at hl 3 rfl) ?_
      refine lv_bipush (v := (-6)) hx hb dX3_isOpposed_42 (by decide) ?_
      obtain ⟨t4, h5, h⟩ := q_b h
      refine r_cVi C hW (nA := 3) (As := [.int p1, .int p3, .int (-6)]) (rest := []) (c_X4_kindOr l g A (b + 1) x.1 p1 p3 (-6) _ h5) gX3_isOpposed_X4_kindOr rfl ⟨rfl, wo_X4_kindOr⟩ (rmk hR rfl rfl) rfl rfl rfl rfl hl.1 (Nat.le_of_ble_eq_true rfl) rz dX3_isOpposed_44 (n := 6) (is := [1]) (rs := [0, 2, 3, 4, 5]) (bs' := [[(A b, .inr (3, [.ref (A (b + 1)), .ref (A (b + 4)), .ref (A (b + 7)), .ref (A (b + 10)), .ref (A (b + 11)), .int x.2.2.2.2.2.1, .int x.2.2.2.2.2.2.1, .int x.2.2.2.2.2.2.2.1, .int x.2.2.2.2.2.2.2.2.1, .int x.2.2.2.2.2.2.2.2.2]))], wX4 g A (b + 1) x.1, wX4 g A (b + 4) x.2.1, wX4 g A (b + 7) x.2.2.1, [(A (b + 10), .inl (gI g, 3, .inl x.2.2.2.1))], [(A (b + 11), .inl (gI g, 2, .inl x.2.2.2.2.1))]]) rfl rfl pm_5f1b36ad (List.append_nil _) (List.append_nil _) rfl (fun H locs hW => ?_)
      refine lv_iload hx hb dX3_isOpposed_47 (lv_at hl 4 rfl) ?_
      obtain ⟨t6, h7, h⟩ := q_b h
      refine r_cSi C hW (nA := 1) (As := [.int p4]) (rest := [.int t4]) (c_X3_otherWay l g p4 _ h7) gX3_isOpposed_X3_otherWay rfl wo_X3_otherWay (rmk hR rfl rfl) rfl rfl hl.1 (Nat.le_of_ble_eq_true rfl) rz dX3_isOpposed_49 (n := 6) (is := []) (rs := [0, 1, 2, 3, 4, 5]) (bs' := [[(A b, .inr (3, [.ref (A (b + 1)), .ref (A (b + 4)), .ref (A (b + 7)), .ref (A (b + 10)), .ref (A (b + 11)), .int x.2.2.2.2.2.1, .int x.2.2.2.2.2.2.1, .int x.2.2.2.2.2.2.2.1, .int x.2.2.2.2.2.2.2.2.1, .int x.2.2.2.2.2.2.2.2.2]))], wX4 g A (b + 1) x.1, wX4 g A (b + 4) x.2.1, wX4 g A (b + 7) x.2.2.1, [(A (b + 10), .inl (gI g, 3, .inl x.2.2.2.1))], [(A (b + 11), .inl (gI g, 2, .inl x.2.2.2.2.1))]]) rfl rfl pm_071a2d01 rfl rfl rfl (fun H locs hW => ?_)
      refine lv_icmp_ne (tgt := 59) hx hb dX3_isOpposed_52 (by decide) (fun e8 => ?_) (fun e8 => ?_)
      · replace h := q_f e8 h
        refine lv_iconst (v := 0) hx hb dX3_isOpposed_59 (by decide) ?_
        cases h
        exact E _ _ _ _ _ hW rfl rfl dX3_isOpposed_60
      · replace h := q_t e8 h
        refine lv_iconst (v := 1) hx hb dX3_isOpposed_55 (by decide) ?_
        refine lv_goto (tgt := 60) hx hb dX3_isOpposed_56 (by decide) ?_
        cases h
        exact E _ _ _ _ _ hW rfl rfl dX3_isOpposed_60
  have J24 : ∀ (w24 : Unit), f_X3_isOpposed_j24 x p1 p3 p4 w24 = some r → ∀ (H : Heap) (locs : List Loc), WdG g Z s.heap H locs [[(A b, .inr (3, [.ref (A (b + 1)), .ref (A (b + 4)), .ref (A (b + 7)), .ref (A (b + 10)), .ref (A (b + 11)), .int x.2.2.2.2.2.1, .int x.2.2.2.2.2.2.1, .int x.2.2.2.2.2.2.2.1, .int x.2.2.2.2.2.2.2.2.1, .int x.2.2.2.2.2.2.2.2.2]))], wX4 g A (b + 1) x.1, wX4 g A (b + 4) x.2.1, wX4 g A (b + 7) x.2.2.1, [(A (b + 10), .inl (gI g, 3, .inl x.2.2.2.1))], [(A (b + 11), .inl (gI g, 2, .inl x.2.2.2.2.1))]] → ∀ ls : Array Slot, lv_has ls 7 [(0, .ref (A b)), (1, .int p1), (3, .int p3), (4, .int p4)] → W p l e R s m args below meth c H locs 0 0 Q (F0 m 24 ls []) := by
    intro w24 h H locs hW ls hl
    unfold f_X3_isOpposed_j24 at h
    refine lv_iconst (v := 1) hx hb dX3_isOpposed_24 (by decide) ?_
    refine lv_goto (tgt := 29) hx hb dX3_isOpposed_25 (by decide) ?_
    exact J29 1 h _ _ hW _ (lv_sub hl [0, 1, 2, 3] rfl)
  refine lv_icmp_eq (tgt := 24) hx hb dX3_isOpposed_15 (by decide) (fun e9 => ?_) (fun e9 => ?_)
  · replace h := q_t e9 h
    exact J24 () h _ _ hW _ (lv_sub hl [1, 2, 4, 5] rfl)
  · replace h := q_f e9 h
    refine lv_iload hx hb dX3_isOpposed_18 (lv_at hl 0 rfl) ?_
    refine lv_iconst (v := 3) hx hb dX3_isOpposed_20 (by decide) ?_
    refine lv_icmp_ne (tgt := 28) hx hb dX3_isOpposed_21 (by decide) (fun e10 => ?_) (fun e10 => ?_)
    · replace h := q_f e10 h
      refine lv_iconst (v := 0) hx hb dX3_isOpposed_28 (by decide) ?_
      exact J29 0 h _ _ hW _ (lv_sub hl [1, 2, 4, 5] rfl)
    · replace h := q_t e10 h
      exact J24 () h _ _ hW _ (lv_sub hl [1, 2, 4, 5] rfl)
def f_X3_refusal_j82 (w82 : Int32) : Option (Int32) :=
if w82 = 0 then (
some 0)
else (
some 2)
def f_X3_refusal_j77 (w77 : Unit) : Option (Int32) :=
f_X3_refusal_j82 1
def f_X3_refusal_j81 (w81 : Unit) : Option (Int32) :=
f_X3_refusal_j82 0
def f_X3_refusal_j57 (x : TX3s) (p1 : Int32) (p2 : Int32) (p3 : Int32) (w57 : Unit) : Option (Int32) :=
if 3 ≤ (p1 + 1) then (
f_X3_refusal_j81 ())
else (
(f_X3_isOpposed x (p1 + 1) p1 p2 p3).bind fun t13 =>
if t13 = 0 then (
f_X3_refusal_j81 ())
else (
f_X3_refusal_j77 ()))
def f_X3_refusal (x : TX3s) (p1 : Int32) (p2 : Int32) (p3 : Int32) : Option (Int32) :=
(f_X3_nearestArrow x p1 p2 1).bind fun t1 =>
(f_X3_nearestArrow x p1 p2 (-1)).bind fun t3 =>
(f_X3_meetHeadOn p3 t1).bind fun t5 =>
if t5 = 0 then (
(f_X3_meetHeadOn t3 p3).bind fun t8 =>
if t8 = 0 then (
if p1 ≤ 0 then (
f_X3_refusal_j57 x p1 p2 p3 ())
else (
(f_X3_isOpposed x (p1 - 1) (p1 - 1) p2 p3).bind fun t17 =>
if t17 = 0 then (
f_X3_refusal_j57 x p1 p2 p3 ())
else (
f_X3_refusal_j77 ())))
else (
some 1))
else (
some 1)
theorem wo_X3_refusal : wordsOk yX3_refusal 3 := by decide +kernel
set_option maxHeartbeats 4000000 in
set_option maxRecDepth 100000 in
theorem c_X3_refusal (l : Launch) (g : GG) (A : Nat → Nat) (b : Nat) (x : TX3s) (p1 : Int32) (p2 : Int32) (p3 : Int32) (r : Int32) (h : f_X3_refusal x p1 p2 p3 = some r) : CI l yX3_refusal wsX3_refusal 2 50 g [.ref (A b), .int p1, .int p2, .int p3] (wX3 g A b x) r (wX3 g A b x) := by
  refine CI.mk (own := RX3) (by decide) rfl rfl (Nat.le_of_ble_eq_true rfl) ?_
  intro p e R s m args below meth c Z Q C E hR H hW ls hl
  have hx := C.1.1
  have hb := C.1.2.1
  have hown := C.1.2.2.2.1
  replace hW : WdG g Z s.heap H [] [[(A b, .inr (3, [.ref (A (b + 1)), .ref (A (b + 4)), .ref (A (b + 7)), .ref (A (b + 10)), .ref (A (b + 11)), .int x.2.2.2.2.2.1, .int x.2.2.2.2.2.2.1, .int x.2.2.2.2.2.2.2.1, .int x.2.2.2.2.2.2.2.2.1, .int x.2.2.2.2.2.2.2.2.2]))], wX4 g A (b + 1) x.1, wX4 g A (b + 4) x.2.1, wX4 g A (b + 7) x.2.2.1, [(A (b + 10), .inl (gI g, 3, .inl x.2.2.2.1))], [(A (b + 11), .inl (gI g, 2, .inl x.2.2.2.2.1))]] := hW.re rfl
  replace hl : lv_has ls 7 [(0, .ref (A b)), (1, .int p1), (2, .int p2), (3, .int p3)] := hl
  unfold f_X3_refusal at h
  refine lv_aload_n hx hb dX3_refusal_0 rfl (lv_at hl 0 rfl) ?_
  refine lv_iload_n hx hb dX3_refusal_1 rfl (lv_at hl 1 rfl) ?_
  refine lv_iload_n hx hb dX3_refusal_2 rfl (lv_at hl 2 rfl) ?_
  refine lv_iconst (v := 1) hx hb dX3_refusal_3 (by decide) ?_
  obtain ⟨t1, h2, h⟩ := q_b h
  refine r_cVi C hW (nA := 3) (As := [.int p1, .int p2, .int 1]) (rest := []) (c_X3_nearestArrow l g A b x p1 p2 1 _ h2) gX3_refusal_X3_nearestArrow rfl ⟨rfl, wo_X3_nearestArrow⟩ (rmk hR rfl rfl) rfl rfl rfl rfl hl.1 (Nat.le_of_ble_eq_true rfl) rz dX3_refusal_4 (n := 6) (is := [0, 1, 2, 3, 4, 5]) (rs := []) (bs' := [[(A b, .inr (3, [.ref (A (b + 1)), .ref (A (b + 4)), .ref (A (b + 7)), .ref (A (b + 10)), .ref (A (b + 11)), .int x.2.2.2.2.2.1, .int x.2.2.2.2.2.2.1, .int x.2.2.2.2.2.2.2.1, .int x.2.2.2.2.2.2.2.2.1, .int x.2.2.2.2.2.2.2.2.2]))], wX4 g A (b + 1) x.1, wX4 g A (b + 4) x.2.1, wX4 g A (b + 7) x.2.2.1, [(A (b + 10), .inl (gI g, 3, .inl x.2.2.2.1))], [(A (b + 11), .inl (gI g, 2, .inl x.2.2.2.2.1))]]) rfl rfl pm_232c3c4a rfl rfl rfl (fun H locs hW => ?_)
  refine lv_istore (lv' := [(4, .int t1), (0, .ref (A b)), (1, .int p1), (2, .int p2), (3, .int p3)]) hx hb dX3_refusal_7 hl (by decide) rfl (fun ls hl => ?_)
  refine lv_aload_n hx hb dX3_refusal_9 rfl (lv_at hl 1 rfl) ?_
  refine lv_iload_n hx hb dX3_refusal_10 rfl (lv_at hl 2 rfl) ?_
  refine lv_iload_n hx hb dX3_refusal_11 rfl (lv_at hl 3 rfl) ?_
  refine lv_iconst (v := (-1)) hx hb dX3_refusal_12 (by decide) ?_
  obtain ⟨t3, h4, h⟩ := q_b h
  refine r_cVi C hW (nA := 3) (As := [.int p1, .int p2, .int (-1)]) (rest := []) (c_X3_nearestArrow l g A b x p1 p2 (-1) _ h4) gX3_refusal_X3_nearestArrow rfl ⟨rfl, wo_X3_nearestArrow⟩ (rmk hR rfl rfl) rfl rfl rfl rfl hl.1 (Nat.le_of_ble_eq_true rfl) rz dX3_refusal_13 (n := 6) (is := [0, 1, 2, 3, 4, 5]) (rs := []) (bs' := [[(A b, .inr (3, [.ref (A (b + 1)), .ref (A (b + 4)), .ref (A (b + 7)), .ref (A (b + 10)), .ref (A (b + 11)), .int x.2.2.2.2.2.1, .int x.2.2.2.2.2.2.1, .int x.2.2.2.2.2.2.2.1, .int x.2.2.2.2.2.2.2.2.1, .int x.2.2.2.2.2.2.2.2.2]))], wX4 g A (b + 1) x.1, wX4 g A (b + 4) x.2.1, wX4 g A (b + 7) x.2.2.1, [(A (b + 10), .inl (gI g, 3, .inl x.2.2.2.1))], [(A (b + 11), .inl (gI g, 2, .inl x.2.2.2.2.1))]]) rfl rfl pm_232c3c4a rfl rfl rfl (fun H locs hW => ?_)
  refine lv_istore (lv' := [(5, .int t3), (4, .int t1), (0, .ref (A b)), (1, .int p1), (2, .int p2), (3, .int p3)]) hx hb dX3_refusal_16 hl (by decide) rfl (fun ls hl => ?_)
  refine lv_iload_n hx hb dX3_refusal_18 rfl (lv_at hl 5 rfl) ?_
  refine lv_iload hx hb dX3_refusal_19 (lv_at hl 1 rfl) ?_
  obtain ⟨t5, h6, h⟩ := q_b h
  refine r_cSi C hW (nA := 2) (As := [.int p3, .int t1]) (rest := []) (c_X3_meetHeadOn l g p3 t1 _ h6) gX3_refusal_X3_meetHeadOn rfl wo_X3_meetHeadOn (rmk hR rfl rfl) rfl rfl hl.1 (Nat.le_of_ble_eq_true rfl) rz dX3_refusal_21 (n := 6) (is := []) (rs := [0, 1, 2, 3, 4, 5]) (bs' := [[(A b, .inr (3, [.ref (A (b + 1)), .ref (A (b + 4)), .ref (A (b + 7)), .ref (A (b + 10)), .ref (A (b + 11)), .int x.2.2.2.2.2.1, .int x.2.2.2.2.2.2.1, .int x.2.2.2.2.2.2.2.1, .int x.2.2.2.2.2.2.2.2.1, .int x.2.2.2.2.2.2.2.2.2]))], wX4 g A (b + 1) x.1, wX4 g A (b + 4) x.2.1, wX4 g A (b + 7) x.2.2.1, [(A (b + 10), .inl (gI g, 3, .inl x.2.2.2.1))], [(A (b + 11), .inl (gI g, 2, .inl x.2.2.2.2.1))]]) rfl rfl pm_071a2d01 rfl rfl rfl (fun H locs hW => ?_)
  refine lv_if_ne (tgt := 36) hx hb dX3_refusal_24 (by decide) (fun e7 => ?_) (fun e7 => ?_)
  · replace h := q_f e7 h
    refine lv_iconst (v := 1) hx hb dX3_refusal_36 (by decide) ?_
    cases h
    exact E _ _ _ _ _ hW rfl rfl dX3_refusal_37
  · replace h := q_t e7 h
    refine lv_iload hx hb dX3_refusal_27 (lv_at hl 0 rfl) ?_
    refine lv_iload_n hx hb dX3_refusal_29 rfl (lv_at hl 5 rfl) ?_
    obtain ⟨t8, h9, h⟩ := q_b h
    refine r_cSi C hW (nA := 2) (As := [.int t3, .int p3]) (rest := []) (c_X3_meetHeadOn l g t3 p3 _ h9) gX3_refusal_X3_meetHeadOn rfl wo_X3_meetHeadOn (rmk hR rfl rfl) rfl rfl hl.1 (Nat.le_of_ble_eq_true rfl) rz dX3_refusal_30 (n := 6) (is := []) (rs := [0, 1, 2, 3, 4, 5]) (bs' := [[(A b, .inr (3, [.ref (A (b + 1)), .ref (A (b + 4)), .ref (A (b + 7)), .ref (A (b + 10)), .ref (A (b + 11)), .int x.2.2.2.2.2.1, .int x.2.2.2.2.2.2.1, .int x.2.2.2.2.2.2.2.1, .int x.2.2.2.2.2.2.2.2.1, .int x.2.2.2.2.2.2.2.2.2]))], wX4 g A (b + 1) x.1, wX4 g A (b + 4) x.2.1, wX4 g A (b + 7) x.2.2.1, [(A (b + 10), .inl (gI g, 3, .inl x.2.2.2.1))], [(A (b + 11), .inl (gI g, 2, .inl x.2.2.2.2.1))]]) rfl rfl pm_071a2d01 rfl rfl rfl (fun H locs hW => ?_)
    refine lv_if_eq (tgt := 38) hx hb dX3_refusal_33 (by decide) (fun e10 => ?_) (fun e10 => ?_)
    · replace h := q_t e10 h
      refine lv_iload_n hx hb dX3_refusal_38 rfl (lv_at hl 3 rfl) ?_
      have J82 : ∀ (w82 : Int32), f_X3_refusal_j82 w82 = some r → ∀ (H : Heap) (locs : List Loc), WdG g Z s.heap H locs [[(A b, .inr (3, [.ref (A (b + 1)), .ref (A (b + 4)), .ref (A (b + 7)), .ref (A (b + 10)), .ref (A (b + 11)), .int x.2.2.2.2.2.1, .int x.2.2.2.2.2.2.1, .int x.2.2.2.2.2.2.2.1, .int x.2.2.2.2.2.2.2.2.1, .int x.2.2.2.2.2.2.2.2.2]))], wX4 g A (b + 1) x.1, wX4 g A (b + 4) x.2.1, wX4 g A (b + 7) x.2.2.1, [(A (b + 10), .inl (gI g, 3, .inl x.2.2.2.1))], [(A (b + 11), .inl (gI g, 2, .inl x.2.2.2.2.1))]] → ∀ ls : Array Slot, lv_has ls 7 [] → W p l e R s m args below meth c H locs 0 0 Q (F0 m 82 ls [.int w82]) := by
        intro w82 h H locs hW ls hl
        unfold f_X3_refusal_j82 at h
        refine lv_istore (lv' := [(6, .int w82)]) hx hb dX3_refusal_82 hl (by decide) rfl (fun ls hl => ?_)
        refine lv_iload hx hb dX3_refusal_84 (lv_at hl 0 rfl) ?_
        refine lv_if_eq (tgt := 93) hx hb dX3_refusal_86 (by decide) (fun e11 => ?_) (fun e11 => ?_)
        · replace h := q_t e11 h
          refine lv_iconst (v := 0) hx hb dX3_refusal_93 (by decide) ?_
          cases h
          exact E _ _ _ _ _ hW rfl rfl dX3_refusal_94
        · replace h := q_f e11 h
          refine lv_iconst (v := 2) hx hb dX3_refusal_89 (by decide) ?_
          refine lv_goto (tgt := 94) hx hb dX3_refusal_90 (by decide) ?_
          cases h
          exact E _ _ _ _ _ hW rfl rfl dX3_refusal_94
      have J77 : ∀ (w77 : Unit), f_X3_refusal_j77 w77 = some r → ∀ (H : Heap) (locs : List Loc), WdG g Z s.heap H locs [[(A b, .inr (3, [.ref (A (b + 1)), .ref (A (b + 4)), .ref (A (b + 7)), .ref (A (b + 10)), .ref (A (b + 11)), .int x.2.2.2.2.2.1, .int x.2.2.2.2.2.2.1, .int x.2.2.2.2.2.2.2.1, .int x.2.2.2.2.2.2.2.2.1, .int x.2.2.2.2.2.2.2.2.2]))], wX4 g A (b + 1) x.1, wX4 g A (b + 4) x.2.1, wX4 g A (b + 7) x.2.2.1, [(A (b + 10), .inl (gI g, 3, .inl x.2.2.2.1))], [(A (b + 11), .inl (gI g, 2, .inl x.2.2.2.2.1))]] → ∀ ls : Array Slot, lv_has ls 7 [] → W p l e R s m args below meth c H locs 0 0 Q (F0 m 77 ls []) := by
        intro w77 h H locs hW ls hl
        unfold f_X3_refusal_j77 at h
        refine lv_iconst (v := 1) hx hb dX3_refusal_77 (by decide) ?_
        refine lv_goto (tgt := 82) hx hb dX3_refusal_78 (by decide) ?_
        exact J82 1 h _ _ hW _ (lv_sub hl [] rfl)
      have J57 : ∀ (w57 : Unit), f_X3_refusal_j57 x p1 p2 p3 w57 = some r → ∀ (H : Heap) (locs : List Loc), WdG g Z s.heap H locs [[(A b, .inr (3, [.ref (A (b + 1)), .ref (A (b + 4)), .ref (A (b + 7)), .ref (A (b + 10)), .ref (A (b + 11)), .int x.2.2.2.2.2.1, .int x.2.2.2.2.2.2.1, .int x.2.2.2.2.2.2.2.1, .int x.2.2.2.2.2.2.2.2.1, .int x.2.2.2.2.2.2.2.2.2]))], wX4 g A (b + 1) x.1, wX4 g A (b + 4) x.2.1, wX4 g A (b + 7) x.2.2.1, [(A (b + 10), .inl (gI g, 3, .inl x.2.2.2.1))], [(A (b + 11), .inl (gI g, 2, .inl x.2.2.2.2.1))]] → ∀ ls : Array Slot, lv_has ls 7 [(0, .ref (A b)), (1, .int p1), (2, .int p2), (3, .int p3)] → W p l e R s m args below meth c H locs 0 0 Q (F0 m 57 ls []) := by
        intro w57 h H locs hW ls hl
        unfold f_X3_refusal_j57 at h
        refine lv_iload_n hx hb dX3_refusal_57 rfl (lv_at hl 1 rfl) ?_
        refine lv_iconst (v := 1) hx hb dX3_refusal_58 (by decide) ?_
        refine lv_iadd hx hb dX3_refusal_59 ?_
        refine lv_iconst (v := 3) hx hb dX3_refusal_60 (by decide) ?_
        have J81 : ∀ (w81 : Unit), f_X3_refusal_j81 w81 = some r → ∀ (H : Heap) (locs : List Loc), WdG g Z s.heap H locs [[(A b, .inr (3, [.ref (A (b + 1)), .ref (A (b + 4)), .ref (A (b + 7)), .ref (A (b + 10)), .ref (A (b + 11)), .int x.2.2.2.2.2.1, .int x.2.2.2.2.2.2.1, .int x.2.2.2.2.2.2.2.1, .int x.2.2.2.2.2.2.2.2.1, .int x.2.2.2.2.2.2.2.2.2]))], wX4 g A (b + 1) x.1, wX4 g A (b + 4) x.2.1, wX4 g A (b + 7) x.2.2.1, [(A (b + 10), .inl (gI g, 3, .inl x.2.2.2.1))], [(A (b + 11), .inl (gI g, 2, .inl x.2.2.2.2.1))]] → ∀ ls : Array Slot, lv_has ls 7 [] → W p l e R s m args below meth c H locs 0 0 Q (F0 m 81 ls []) := by
          intro w81 h H locs hW ls hl
          unfold f_X3_refusal_j81 at h
          refine lv_iconst (v := 0) hx hb dX3_refusal_81 (by decide) ?_
          exact J82 0 h _ _ hW _ (lv_sub hl [] rfl)
        refine lv_icmp_ge (tgt := 81) hx hb dX3_refusal_61 (by decide) (fun e12 => ?_) (fun e12 => ?_)
        · replace h := q_t e12 h
          exact J81 () h _ _ hW _ (lv_sub hl [] rfl)
        · replace h := q_f e12 h
          refine lv_aload_n hx hb dX3_refusal_64 rfl (lv_at hl 0 rfl) ?_
          refine lv_iload_n hx hb dX3_refusal_65 rfl (lv_at hl 1 rfl) ?_
          refine lv_iconst (v := 1) hx hb dX3_refusal_66 (by decide) ?_
          refine lv_iadd hx hb dX3_refusal_67 ?_
          refine lv_iload_n hx hb dX3_refusal_68 rfl (lv_at hl 1 rfl) ?_
          refine lv_iload_n hx hb dX3_refusal_69 rfl (lv_at hl 2 rfl) ?_
          refine lv_iload_n hx hb dX3_refusal_70 rfl (lv_at hl 3 rfl) ?_
          obtain ⟨t13, h14, h⟩ := q_b h
          refine r_cVi C hW (nA := 4) (As := [.int (p1 + 1), .int p1, .int p2, .int p3]) (rest := []) (c_X3_isOpposed l g A b x (p1 + 1) p1 p2 p3 _ h14) gX3_refusal_X3_isOpposed rfl ⟨rfl, wo_X3_isOpposed⟩ (rmk hR rfl rfl) rfl rfl rfl rfl hl.1 (Nat.le_of_ble_eq_true rfl) rz dX3_refusal_71 (n := 6) (is := [0, 1, 2, 3, 4, 5]) (rs := []) (bs' := [[(A b, .inr (3, [.ref (A (b + 1)), .ref (A (b + 4)), .ref (A (b + 7)), .ref (A (b + 10)), .ref (A (b + 11)), .int x.2.2.2.2.2.1, .int x.2.2.2.2.2.2.1, .int x.2.2.2.2.2.2.2.1, .int x.2.2.2.2.2.2.2.2.1, .int x.2.2.2.2.2.2.2.2.2]))], wX4 g A (b + 1) x.1, wX4 g A (b + 4) x.2.1, wX4 g A (b + 7) x.2.2.1, [(A (b + 10), .inl (gI g, 3, .inl x.2.2.2.1))], [(A (b + 11), .inl (gI g, 2, .inl x.2.2.2.2.1))]]) rfl rfl pm_232c3c4a rfl rfl rfl (fun H locs hW => ?_)
          refine lv_if_eq (tgt := 81) hx hb dX3_refusal_74 (by decide) (fun e15 => ?_) (fun e15 => ?_)
          · replace h := q_t e15 h
            exact J81 () h _ _ hW _ (lv_sub hl [] rfl)
          · replace h := q_f e15 h
            exact J77 () h _ _ hW _ (lv_sub hl [] rfl)
      refine lv_if_le (tgt := 57) hx hb dX3_refusal_39 (by decide) (fun e16 => ?_) (fun e16 => ?_)
      · replace h := q_t e16 h
        exact J57 () h _ _ hW _ (lv_sub hl [2, 3, 4, 5] rfl)
      · replace h := q_f e16 h
        refine lv_aload_n hx hb dX3_refusal_42 rfl (lv_at hl 2 rfl) ?_
        refine lv_iload_n hx hb dX3_refusal_43 rfl (lv_at hl 3 rfl) ?_
        refine lv_iconst (v := 1) hx hb dX3_refusal_44 (by decide) ?_
        refine lv_isub hx hb dX3_refusal_45 ?_
        refine lv_iload_n hx hb dX3_refusal_46 rfl (lv_at hl 3 rfl) ?_
        refine lv_iconst (v := 1) hx hb dX3_refusal_47 (by decide) ?_
        refine lv_isub hx hb dX3_refusal_48 ?_
        refine lv_iload_n hx hb dX3_refusal_49 rfl (lv_at hl 4 rfl) ?_
        refine lv_iload_n hx hb dX3_refusal_50 rfl (lv_at hl 5 rfl) ?_
        obtain ⟨t17, h18, h⟩ := q_b h
        refine r_cVi C hW (nA := 4) (As := [.int (p1 - 1), .int (p1 - 1), .int p2, .int p3]) (rest := []) (c_X3_isOpposed l g A b x (p1 - 1) (p1 - 1) p2 p3 _ h18) gX3_refusal_X3_isOpposed rfl ⟨rfl, wo_X3_isOpposed⟩ (rmk hR rfl rfl) rfl rfl rfl rfl hl.1 (Nat.le_of_ble_eq_true rfl) rz dX3_refusal_51 (n := 6) (is := [0, 1, 2, 3, 4, 5]) (rs := []) (bs' := [[(A b, .inr (3, [.ref (A (b + 1)), .ref (A (b + 4)), .ref (A (b + 7)), .ref (A (b + 10)), .ref (A (b + 11)), .int x.2.2.2.2.2.1, .int x.2.2.2.2.2.2.1, .int x.2.2.2.2.2.2.2.1, .int x.2.2.2.2.2.2.2.2.1, .int x.2.2.2.2.2.2.2.2.2]))], wX4 g A (b + 1) x.1, wX4 g A (b + 4) x.2.1, wX4 g A (b + 7) x.2.2.1, [(A (b + 10), .inl (gI g, 3, .inl x.2.2.2.1))], [(A (b + 11), .inl (gI g, 2, .inl x.2.2.2.2.1))]]) rfl rfl pm_232c3c4a rfl rfl rfl (fun H locs hW => ?_)
        refine lv_if_ne (tgt := 77) hx hb dX3_refusal_54 (by decide) (fun e19 => ?_) (fun e19 => ?_)
        · replace h := q_f e19 h
          exact J77 () h _ _ hW _ (lv_sub hl [] rfl)
        · replace h := q_t e19 h
          exact J57 () h _ _ hW _ (lv_sub hl [2, 3, 4, 5] rfl)
    · replace h := q_f e10 h
      refine lv_iconst (v := 1) hx hb dX3_refusal_36 (by decide) ?_
      cases h
      exact E _ _ _ _ _ hW rfl rfl dX3_refusal_37
def f_X3_readableDays (x : TX3s) (p1 : Int32) (p2 : Int32) : Option (Int32) :=
(f_X4_isAt x.2.1 p1 p2).bind fun t1 =>
if t1 = 0 then (
some (-6))
else (
(f_X3_canRead x p1 p2).bind fun t4 =>
if t4 = 0 then (
some 0)
else (
(f_X3_lossAt x p1 p2).bind fun t7 =>
if t7 = 0 then (
some (-6))
else (
(f_X4_strengthAt x.2.1 p1 p2).bind fun t10 =>
if (0 : Int32) < 0 ∨ 2 ≤ (0 : Int32).toNatClampNeg then none else
if t7 = 0 then none else
some (((t10 - (x.2.2.2.2.1 (0 : Int32).toNatClampNeg)) / t7) + 1))))
theorem wo_X3_readableDays : wordsOk yX3_readableDays 2 := by decide +kernel
theorem inX3_readableDays_X3 : ∀ w ∈ wsX30, w ∈ wsX3_readableDays := fun _ h => List.mem_cons_of_mem _ (List.mem_append_left _ (List.mem_append_right _ h))
set_option maxHeartbeats 4000000 in
set_option maxRecDepth 100000 in
theorem c_X3_readableDays (l : Launch) (g : GG) (A : Nat → Nat) (b : Nat) (x : TX3s) (p1 : Int32) (p2 : Int32) (r : Int32) (h : f_X3_readableDays x p1 p2 = some r) : CI l yX3_readableDays wsX3_readableDays 3 67 g [.ref (A b), .int p1, .int p2] (wX3 g A b x) r (wX3 g A b x) := by
  refine CI.mk (own := RX3) (by decide) rfl rfl (Nat.le_of_ble_eq_true rfl) ?_
  intro p e R s m args below meth c Z Q C E hR H hW ls hl
  have hx := C.1.1
  have hb := C.1.2.1
  have hown := C.1.2.2.2.1
  replace hW : WdG g Z s.heap H [] [[(A b, .inr (3, [.ref (A (b + 1)), .ref (A (b + 4)), .ref (A (b + 7)), .ref (A (b + 10)), .ref (A (b + 11)), .int x.2.2.2.2.2.1, .int x.2.2.2.2.2.2.1, .int x.2.2.2.2.2.2.2.1, .int x.2.2.2.2.2.2.2.2.1, .int x.2.2.2.2.2.2.2.2.2]))], wX4 g A (b + 1) x.1, wX4 g A (b + 4) x.2.1, wX4 g A (b + 7) x.2.2.1, [(A (b + 10), .inl (gI g, 3, .inl x.2.2.2.1))], [(A (b + 11), .inl (gI g, 2, .inl x.2.2.2.2.1))]] := hW.re rfl
  replace hl : lv_has ls 4 [(0, .ref (A b)), (1, .int p1), (2, .int p2)] := hl
  unfold f_X3_readableDays at h
  refine lv_aload_n hx hb dX3_readableDays_0 rfl (lv_at hl 0 rfl) ?_
  refine r_get C hW (K := RX3) (T := TX3) (N := 10) (v := .ref (A (b + 4))) 0 0 1 rfl rfl rfl inX3_readableDays_X3 (by decide) (List.mem_of_getElem? (i := 1) rfl) rfl rfl dX3_readableDays_1 ?_
  refine lv_iload_n hx hb dX3_readableDays_4 rfl (lv_at hl 1 rfl) ?_
  refine lv_iload_n hx hb dX3_readableDays_5 rfl (lv_at hl 2 rfl) ?_
  obtain ⟨t1, h2, h⟩ := q_b h
  refine r_cVi C hW (nA := 2) (As := [.int p1, .int p2]) (rest := []) (c_X4_isAt l g A (b + 4) x.2.1 p1 p2 _ h2) gX3_readableDays_X4_isAt rfl ⟨rfl, wo_X4_isAt⟩ (rmk hR rfl rfl) rfl rfl rfl rfl hl.1 (Nat.le_of_ble_eq_true rfl) rz dX3_readableDays_6 (n := 6) (is := [2]) (rs := [0, 1, 3, 4, 5]) (bs' := [[(A b, .inr (3, [.ref (A (b + 1)), .ref (A (b + 4)), .ref (A (b + 7)), .ref (A (b + 10)), .ref (A (b + 11)), .int x.2.2.2.2.2.1, .int x.2.2.2.2.2.2.1, .int x.2.2.2.2.2.2.2.1, .int x.2.2.2.2.2.2.2.2.1, .int x.2.2.2.2.2.2.2.2.2]))], wX4 g A (b + 1) x.1, wX4 g A (b + 4) x.2.1, wX4 g A (b + 7) x.2.2.1, [(A (b + 10), .inl (gI g, 3, .inl x.2.2.2.1))], [(A (b + 11), .inl (gI g, 2, .inl x.2.2.2.2.1))]]) rfl rfl pm_5105827f (List.append_nil _) (List.append_nil _) rfl (fun H locs hW => ?_)
  refine lv_if_ne (tgt := 15) hx hb dX3_readableDays_9 (by decide) (fun e3 => ?_) (fun e3 => ?_)
  · replace h := q_f e3 h
    refine lv_aload_n hx hb dX3_readableDays_15 rfl (lv_at hl 0 rfl) ?_
    refine lv_iload_n hx hb dX3_readableDays_16 rfl (lv_at hl 1 rfl) ?_
    refine lv_iload_n hx hb dX3_readableDays_17 rfl (lv_at hl 2 rfl) ?_
    obtain ⟨t4, h5, h⟩ := q_b h
    refine r_cVi C hW (nA := 2) (As := [.int p1, .int p2]) (rest := []) (c_X3_canRead l g A b x p1 p2 _ h5) gX3_readableDays_X3_canRead rfl ⟨rfl, wo_X3_canRead⟩ (rmk hR rfl rfl) rfl rfl rfl rfl hl.1 (Nat.le_of_ble_eq_true rfl) rz dX3_readableDays_18 (n := 6) (is := [0, 1, 2, 3, 4, 5]) (rs := []) (bs' := [[(A b, .inr (3, [.ref (A (b + 1)), .ref (A (b + 4)), .ref (A (b + 7)), .ref (A (b + 10)), .ref (A (b + 11)), .int x.2.2.2.2.2.1, .int x.2.2.2.2.2.2.1, .int x.2.2.2.2.2.2.2.1, .int x.2.2.2.2.2.2.2.2.1, .int x.2.2.2.2.2.2.2.2.2]))], wX4 g A (b + 1) x.1, wX4 g A (b + 4) x.2.1, wX4 g A (b + 7) x.2.2.1, [(A (b + 10), .inl (gI g, 3, .inl x.2.2.2.1))], [(A (b + 11), .inl (gI g, 2, .inl x.2.2.2.2.1))]]) rfl rfl pm_232c3c4a rfl rfl rfl (fun H locs hW => ?_)
    refine lv_if_ne (tgt := 26) hx hb dX3_readableDays_21 (by decide) (fun e6 => ?_) (fun e6 => ?_)
    · replace h := q_f e6 h
      refine lv_aload_n hx hb dX3_readableDays_26 rfl (lv_at hl 0 rfl) ?_
      refine lv_iload_n hx hb dX3_readableDays_27 rfl (lv_at hl 1 rfl) ?_
      refine lv_iload_n hx hb dX3_readableDays_28 rfl (lv_at hl 2 rfl) ?_
      obtain ⟨t7, h8, h⟩ := q_b h
      refine r_cVi C hW (nA := 2) (As := [.int p1, .int p2]) (rest := []) (c_X3_lossAt l g A b x p1 p2 _ h8) gX3_readableDays_X3_lossAt rfl ⟨rfl, wo_X3_lossAt⟩ (rmk hR rfl rfl) rfl rfl rfl rfl hl.1 (Nat.le_of_ble_eq_true rfl) rz dX3_readableDays_29 (n := 6) (is := [0, 1, 2, 3, 4, 5]) (rs := []) (bs' := [[(A b, .inr (3, [.ref (A (b + 1)), .ref (A (b + 4)), .ref (A (b + 7)), .ref (A (b + 10)), .ref (A (b + 11)), .int x.2.2.2.2.2.1, .int x.2.2.2.2.2.2.1, .int x.2.2.2.2.2.2.2.1, .int x.2.2.2.2.2.2.2.2.1, .int x.2.2.2.2.2.2.2.2.2]))], wX4 g A (b + 1) x.1, wX4 g A (b + 4) x.2.1, wX4 g A (b + 7) x.2.2.1, [(A (b + 10), .inl (gI g, 3, .inl x.2.2.2.1))], [(A (b + 11), .inl (gI g, 2, .inl x.2.2.2.2.1))]]) rfl rfl pm_232c3c4a rfl rfl rfl (fun H locs hW => ?_)
      refine lv_istore_n (lv' := [(3, .int t7), (0, .ref (A b)), (1, .int p1), (2, .int p2)]) hx hb dX3_readableDays_32 rfl hl (by decide) rfl (fun ls hl => ?_)
      refine lv_iload_n hx hb dX3_readableDays_33 rfl (lv_at hl 0 rfl) ?_
      refine lv_if_ne (tgt := 40) hx hb dX3_readableDays_34 (by decide) (fun e9 => ?_) (fun e9 => ?_)
      · replace h := q_f e9 h
        refine lv_aload_n hx hb dX3_readableDays_40 rfl (lv_at hl 1 rfl) ?_
        refine r_get C hW (K := RX3) (T := TX3) (N := 10) (v := .ref (A (b + 4))) 0 0 1 rfl rfl rfl inX3_readableDays_X3 (by decide) (List.mem_of_getElem? (i := 1) rfl) rfl rfl dX3_readableDays_41 ?_
        refine lv_iload_n hx hb dX3_readableDays_44 rfl (lv_at hl 2 rfl) ?_
        refine lv_iload_n hx hb dX3_readableDays_45 rfl (lv_at hl 3 rfl) ?_
        obtain ⟨t10, h11, h⟩ := q_b h
        refine r_cVi C hW (nA := 2) (As := [.int p1, .int p2]) (rest := []) (c_X4_strengthAt l g A (b + 4) x.2.1 p1 p2 _ h11) gX3_readableDays_X4_strengthAt rfl ⟨rfl, wo_X4_strengthAt⟩ (rmk hR rfl rfl) rfl rfl rfl rfl hl.1 (Nat.le_of_ble_eq_true rfl) rz dX3_readableDays_46 (n := 6) (is := [2]) (rs := [0, 1, 3, 4, 5]) (bs' := [[(A b, .inr (3, [.ref (A (b + 1)), .ref (A (b + 4)), .ref (A (b + 7)), .ref (A (b + 10)), .ref (A (b + 11)), .int x.2.2.2.2.2.1, .int x.2.2.2.2.2.2.1, .int x.2.2.2.2.2.2.2.1, .int x.2.2.2.2.2.2.2.2.1, .int x.2.2.2.2.2.2.2.2.2]))], wX4 g A (b + 1) x.1, wX4 g A (b + 4) x.2.1, wX4 g A (b + 7) x.2.2.1, [(A (b + 10), .inl (gI g, 3, .inl x.2.2.2.1))], [(A (b + 11), .inl (gI g, 2, .inl x.2.2.2.2.1))]]) rfl rfl pm_5105827f (List.append_nil _) (List.append_nil _) rfl (fun H locs hW => ?_)
        refine lv_aload_n hx hb dX3_readableDays_49 rfl (lv_at hl 1 rfl) ?_
        refine r_get C hW (K := RX3) (T := TX3) (N := 10) (v := .ref (A (b + 11))) 0 0 4 rfl rfl rfl inX3_readableDays_X3 (by decide) (List.mem_of_getElem? (i := 2) rfl) rfl rfl dX3_readableDays_50 ?_
        refine lv_iconst (v := 0) hx hb dX3_readableDays_53 (by decide) ?_
        obtain ⟨g12, h⟩ := q_g h
        refine r_iald C hW 5 0 rfl rfl g12 dX3_readableDays_54 ?_
        refine lv_isub hx hb dX3_readableDays_55 ?_
        refine lv_iload_n hx hb dX3_readableDays_56 rfl (lv_at hl 0 rfl) ?_
        obtain ⟨g13, h⟩ := q_g h
        refine lv_idiv hx hb dX3_readableDays_57 g13 ?_
        refine lv_iconst (v := 1) hx hb dX3_readableDays_58 (by decide) ?_
        refine lv_iadd hx hb dX3_readableDays_59 ?_
        cases h
        exact E _ _ _ _ _ hW rfl rfl dX3_readableDays_60
      · replace h := q_t e9 h
        refine lv_bipush (v := (-6)) hx hb dX3_readableDays_37 (by decide) ?_
        cases h
        exact E _ _ _ _ _ hW rfl rfl dX3_readableDays_39
    · replace h := q_t e6 h
      refine lv_iconst (v := 0) hx hb dX3_readableDays_24 (by decide) ?_
      cases h
      exact E _ _ _ _ _ hW rfl rfl dX3_readableDays_25
  · replace h := q_t e3 h
    refine lv_bipush (v := (-6)) hx hb dX3_readableDays_12 (by decide) ?_
    cases h
    exact E _ _ _ _ _ hW rfl rfl dX3_readableDays_14
def f_X3_countFaded (x : TX3s) (p1 : Int32) : Option (Int32) :=
(f_X4_countFaded x.2.1 p1).bind fun t1 =>
(f_X4_countFaded x.1 p1).bind fun t3 =>
(f_X4_countFaded x.2.2.1 p1).bind fun t5 =>
some ((t1 + t3) + t5)
theorem wo_X3_countFaded : wordsOk yX3_countFaded 1 := by decide +kernel
theorem inX3_countFaded_X3 : ∀ w ∈ wsX30, w ∈ wsX3_countFaded := fun _ h => List.mem_cons_of_mem _ (List.mem_append_left _ (List.mem_append_right _ h))
set_option maxHeartbeats 4000000 in
set_option maxRecDepth 100000 in
theorem c_X3_countFaded (l : Launch) (g : GG) (A : Nat → Nat) (b : Nat) (x : TX3s) (p1 : Int32) (r : Int32) (h : f_X3_countFaded x p1 = some r) : CI l yX3_countFaded wsX3_countFaded 2 46 g [.ref (A b), .int p1] (wX3 g A b x) r (wX3 g A b x) := by
  refine CI.mk (own := RX3) (by decide) rfl rfl (Nat.le_of_ble_eq_true rfl) ?_
  intro p e R s m args below meth c Z Q C E hR H hW ls hl
  have hx := C.1.1
  have hb := C.1.2.1
  have hown := C.1.2.2.2.1
  replace hW : WdG g Z s.heap H [] [[(A b, .inr (3, [.ref (A (b + 1)), .ref (A (b + 4)), .ref (A (b + 7)), .ref (A (b + 10)), .ref (A (b + 11)), .int x.2.2.2.2.2.1, .int x.2.2.2.2.2.2.1, .int x.2.2.2.2.2.2.2.1, .int x.2.2.2.2.2.2.2.2.1, .int x.2.2.2.2.2.2.2.2.2]))], wX4 g A (b + 1) x.1, wX4 g A (b + 4) x.2.1, wX4 g A (b + 7) x.2.2.1, [(A (b + 10), .inl (gI g, 3, .inl x.2.2.2.1))], [(A (b + 11), .inl (gI g, 2, .inl x.2.2.2.2.1))]] := hW.re rfl
  replace hl : lv_has ls 2 [(0, .ref (A b)), (1, .int p1)] := hl
  unfold f_X3_countFaded at h
  refine lv_aload_n hx hb dX3_countFaded_0 rfl (lv_at hl 0 rfl) ?_
  refine r_get C hW (K := RX3) (T := TX3) (N := 10) (v := .ref (A (b + 4))) 0 0 1 rfl rfl rfl inX3_countFaded_X3 (by decide) (List.mem_of_getElem? (i := 1) rfl) rfl rfl dX3_countFaded_1 ?_
  refine lv_iload_n hx hb dX3_countFaded_4 rfl (lv_at hl 1 rfl) ?_
  obtain ⟨t1, h2, h⟩ := q_b h
  refine r_cVi C hW (nA := 1) (As := [.int p1]) (rest := []) (c_X4_countFaded l g A (b + 4) x.2.1 p1 _ h2) gX3_countFaded_X4_countFaded rfl ⟨rfl, wo_X4_countFaded⟩ (rmk hR rfl rfl) rfl rfl rfl rfl hl.1 (Nat.le_of_ble_eq_true rfl) rz dX3_countFaded_5 (n := 6) (is := [2]) (rs := [0, 1, 3, 4, 5]) (bs' := [[(A b, .inr (3, [.ref (A (b + 1)), .ref (A (b + 4)), .ref (A (b + 7)), .ref (A (b + 10)), .ref (A (b + 11)), .int x.2.2.2.2.2.1, .int x.2.2.2.2.2.2.1, .int x.2.2.2.2.2.2.2.1, .int x.2.2.2.2.2.2.2.2.1, .int x.2.2.2.2.2.2.2.2.2]))], wX4 g A (b + 1) x.1, wX4 g A (b + 4) x.2.1, wX4 g A (b + 7) x.2.2.1, [(A (b + 10), .inl (gI g, 3, .inl x.2.2.2.1))], [(A (b + 11), .inl (gI g, 2, .inl x.2.2.2.2.1))]]) rfl rfl pm_5105827f (List.append_nil _) (List.append_nil _) rfl (fun H locs hW => ?_)
  refine lv_aload_n hx hb dX3_countFaded_8 rfl (lv_at hl 0 rfl) ?_
  refine r_get C hW (K := RX3) (T := TX3) (N := 10) (v := .ref (A (b + 1))) 0 0 0 rfl rfl rfl inX3_countFaded_X3 (by decide) (List.mem_of_getElem? (i := 2) rfl) rfl rfl dX3_countFaded_9 ?_
  refine lv_iload_n hx hb dX3_countFaded_12 rfl (lv_at hl 1 rfl) ?_
  obtain ⟨t3, h4, h⟩ := q_b h
  refine r_cVi C hW (nA := 1) (As := [.int p1]) (rest := [.int t1]) (c_X4_countFaded l g A (b + 1) x.1 p1 _ h4) gX3_countFaded_X4_countFaded rfl ⟨rfl, wo_X4_countFaded⟩ (rmk hR rfl rfl) rfl rfl rfl rfl hl.1 (Nat.le_of_ble_eq_true rfl) rz dX3_countFaded_13 (n := 6) (is := [1]) (rs := [0, 2, 3, 4, 5]) (bs' := [[(A b, .inr (3, [.ref (A (b + 1)), .ref (A (b + 4)), .ref (A (b + 7)), .ref (A (b + 10)), .ref (A (b + 11)), .int x.2.2.2.2.2.1, .int x.2.2.2.2.2.2.1, .int x.2.2.2.2.2.2.2.1, .int x.2.2.2.2.2.2.2.2.1, .int x.2.2.2.2.2.2.2.2.2]))], wX4 g A (b + 1) x.1, wX4 g A (b + 4) x.2.1, wX4 g A (b + 7) x.2.2.1, [(A (b + 10), .inl (gI g, 3, .inl x.2.2.2.1))], [(A (b + 11), .inl (gI g, 2, .inl x.2.2.2.2.1))]]) rfl rfl pm_5f1b36ad (List.append_nil _) (List.append_nil _) rfl (fun H locs hW => ?_)
  refine lv_iadd hx hb dX3_countFaded_16 ?_
  refine lv_aload_n hx hb dX3_countFaded_17 rfl (lv_at hl 0 rfl) ?_
  refine r_get C hW (K := RX3) (T := TX3) (N := 10) (v := .ref (A (b + 7))) 0 0 2 rfl rfl rfl inX3_countFaded_X3 (by decide) (List.mem_of_getElem? (i := 3) rfl) rfl rfl dX3_countFaded_18 ?_
  refine lv_iload_n hx hb dX3_countFaded_21 rfl (lv_at hl 1 rfl) ?_
  obtain ⟨t5, h6, h⟩ := q_b h
  refine r_cVi C hW (nA := 1) (As := [.int p1]) (rest := [.int (t1 + t3)]) (c_X4_countFaded l g A (b + 7) x.2.2.1 p1 _ h6) gX3_countFaded_X4_countFaded rfl ⟨rfl, wo_X4_countFaded⟩ (rmk hR rfl rfl) rfl rfl rfl rfl hl.1 (Nat.le_of_ble_eq_true rfl) rz dX3_countFaded_22 (n := 6) (is := [3]) (rs := [0, 1, 2, 4, 5]) (bs' := [[(A b, .inr (3, [.ref (A (b + 1)), .ref (A (b + 4)), .ref (A (b + 7)), .ref (A (b + 10)), .ref (A (b + 11)), .int x.2.2.2.2.2.1, .int x.2.2.2.2.2.2.1, .int x.2.2.2.2.2.2.2.1, .int x.2.2.2.2.2.2.2.2.1, .int x.2.2.2.2.2.2.2.2.2]))], wX4 g A (b + 1) x.1, wX4 g A (b + 4) x.2.1, wX4 g A (b + 7) x.2.2.1, [(A (b + 10), .inl (gI g, 3, .inl x.2.2.2.1))], [(A (b + 11), .inl (gI g, 2, .inl x.2.2.2.2.1))]]) rfl rfl pm_c3f8ed8c (List.append_nil _) (List.append_nil _) rfl (fun H locs hW => ?_)
  refine lv_iadd hx hb dX3_countFaded_25 ?_
  cases h
  exact E _ _ _ _ _ hW rfl rfl dX3_countFaded_26
def f_X3_nightOfMostSigns_j85 (v10 : Int32 × Int32 × Int32 × Int32) (k24 : (Int32 × Int32 × Int32 × Int32 × Int32) → Option (Int32)) (v24 : Int32 × Int32 × Int32 × Int32 × Int32) (t3 : Int32) (t5 : Int32) (w85 : Unit) : Option (Int32) :=
k24 ((if t5 < (v24.2.2.2.1 + t3) then t5 else (v24.2.2.2.1 + t3)), ((v24.2.2.2.2 - v10.2.2.2) + 1), ((16 * v10.2.2.2) + v24.2.2.2.2), (v24.2.2.2.1 + t3), (v24.2.2.2.2 + 1))
def f_X3_nightOfMostSigns_l24 (x : TX3s) (k10 : (Int32 × Int32 × Int32 × Int32) → Option (Int32)) (v10 : Int32 × Int32 × Int32 × Int32) (k24 : (Int32 × Int32 × Int32 × Int32 × Int32) → Option (Int32)) (v24 : Int32 × Int32 × Int32 × Int32 × Int32) : Option (Int32) :=
if 16 ≤ v24.2.2.2.2 then (
k10 (v24.1, v24.2.1, v24.2.2.1, (v10.2.2.2 + 1)))
else (
(f_X3_countFaded x v24.2.2.2.2).bind fun t3 =>
(f_X3_crewLimit x).bind fun t5 =>
if v24.1 < (if t5 < (v24.2.2.2.1 + t3) then t5 else (v24.2.2.2.1 + t3)) then (
f_X3_nightOfMostSigns_j85 v10 k24 v24 t3 t5 ())
else (
if (if t5 < (v24.2.2.2.1 + t3) then t5 else (v24.2.2.2.1 + t3)) ≤ 0 then (
k24 (v24.1, v24.2.1, v24.2.2.1, (v24.2.2.2.1 + t3), (v24.2.2.2.2 + 1)))
else (
if (if t5 < (v24.2.2.2.1 + t3) then t5 else (v24.2.2.2.1 + t3)) = v24.1 then (
if v24.2.1 ≤ ((v24.2.2.2.2 - v10.2.2.2) + 1) then (
k24 (v24.1, v24.2.1, v24.2.2.1, (v24.2.2.2.1 + t3), (v24.2.2.2.2 + 1)))
else (
f_X3_nightOfMostSigns_j85 v10 k24 v24 t3 t5 ()))
else (
k24 (v24.1, v24.2.1, v24.2.2.1, (v24.2.2.2.1 + t3), (v24.2.2.2.2 + 1))))))
def f_X3_nightOfMostSigns_l10 (x : TX3s) (k10 : (Int32 × Int32 × Int32 × Int32) → Option (Int32)) (v10 : Int32 × Int32 × Int32 × Int32) : Option (Int32) :=
if 16 ≤ v10.2.2.2 then (
some v10.2.2.1)
else (
lpN (f_X3_nightOfMostSigns_l24 x k10 v10) 3000 (v10.1, v10.2.1, v10.2.2.1, 0, v10.2.2.2))
def f_X3_nightOfMostSigns (x : TX3s) : Option (Int32) :=
lpN (f_X3_nightOfMostSigns_l10 x) 3000 (0, 0, (-6), 0)
theorem wo_X3_nightOfMostSigns : wordsOk yX3_nightOfMostSigns 0 := by decide +kernel
set_option maxHeartbeats 4000000 in
set_option maxRecDepth 100000 in
theorem c_X3_nightOfMostSigns (l : Launch) (g : GG) (A : Nat → Nat) (b : Nat) (x : TX3s) (r : Int32) (h : f_X3_nightOfMostSigns x = some r) : CI l yX3_nightOfMostSigns wsX3_nightOfMostSigns 3 67 g [.ref (A b)] (wX3 g A b x) r (wX3 g A b x) := by
  refine CI.mk (own := RX3) (by decide) rfl rfl (Nat.le_of_ble_eq_true rfl) ?_
  intro p e R s m args below meth c Z Q C E hR H hW ls hl
  have hx := C.1.1
  have hb := C.1.2.1
  have hown := C.1.2.2.2.1
  replace hW : WdG g Z s.heap H [] [[(A b, .inr (3, [.ref (A (b + 1)), .ref (A (b + 4)), .ref (A (b + 7)), .ref (A (b + 10)), .ref (A (b + 11)), .int x.2.2.2.2.2.1, .int x.2.2.2.2.2.2.1, .int x.2.2.2.2.2.2.2.1, .int x.2.2.2.2.2.2.2.2.1, .int x.2.2.2.2.2.2.2.2.2]))], wX4 g A (b + 1) x.1, wX4 g A (b + 4) x.2.1, wX4 g A (b + 7) x.2.2.1, [(A (b + 10), .inl (gI g, 3, .inl x.2.2.2.1))], [(A (b + 11), .inl (gI g, 2, .inl x.2.2.2.2.1))]] := hW.re rfl
  replace hl : lv_has ls 9 [(0, .ref (A b))] := hl
  unfold f_X3_nightOfMostSigns at h
  refine lv_iconst (v := 0) hx hb dX3_nightOfMostSigns_0 (by decide) ?_
  refine lv_istore_n (lv' := [(1, .int 0), (0, .ref (A b))]) hx hb dX3_nightOfMostSigns_1 rfl hl (by decide) rfl (fun ls hl => ?_)
  refine lv_iconst (v := 0) hx hb dX3_nightOfMostSigns_2 (by decide) ?_
  refine lv_istore_n (lv' := [(2, .int 0), (1, .int 0), (0, .ref (A b))]) hx hb dX3_nightOfMostSigns_3 rfl hl (by decide) rfl (fun ls hl => ?_)
  refine lv_bipush (v := (-6)) hx hb dX3_nightOfMostSigns_4 (by decide) ?_
  refine lv_istore_n (lv' := [(3, .int (-6)), (2, .int 0), (1, .int 0), (0, .ref (A b))]) hx hb dX3_nightOfMostSigns_6 rfl hl (by decide) rfl (fun ls hl => ?_)
  refine lv_iconst (v := 0) hx hb dX3_nightOfMostSigns_7 (by decide) ?_
  refine lv_istore (lv' := [(4, .int 0), (3, .int (-6)), (2, .int 0), (1, .int 0), (0, .ref (A b))]) hx hb dX3_nightOfMostSigns_8 hl (by decide) rfl (fun ls hl => ?_)
  have L10 : ∀ n10 : Nat, ∀ (v10 : Int32 × Int32 × Int32 × Int32), lpN (f_X3_nightOfMostSigns_l10 x) n10 v10 = some r → ∀ (H : Heap) (locs : List Loc), WdG g Z s.heap H locs [[(A b, .inr (3, [.ref (A (b + 1)), .ref (A (b + 4)), .ref (A (b + 7)), .ref (A (b + 10)), .ref (A (b + 11)), .int x.2.2.2.2.2.1, .int x.2.2.2.2.2.2.1, .int x.2.2.2.2.2.2.2.1, .int x.2.2.2.2.2.2.2.2.1, .int x.2.2.2.2.2.2.2.2.2]))], wX4 g A (b + 1) x.1, wX4 g A (b + 4) x.2.1, wX4 g A (b + 7) x.2.2.1, [(A (b + 10), .inl (gI g, 3, .inl x.2.2.2.1))], [(A (b + 11), .inl (gI g, 2, .inl x.2.2.2.2.1))]] → ∀ ls : Array Slot, lv_has ls 9 [(0, .ref (A b)), (1, .int v10.1), (2, .int v10.2.1), (3, .int v10.2.2.1), (4, .int v10.2.2.2)] → W p l e R s m args below meth c H locs 0 0 Q (F0 m 10 ls []) := by
    intro n10
    induction n10 with
    | zero => intro v10 h; exact absurd (show none = some r from h) (fun h => by cases h)
    | succ n10 ih10 =>
      intro v10 h H locs hW ls hl
      replace h : f_X3_nightOfMostSigns_l10 x (lpN (f_X3_nightOfMostSigns_l10 x) n10) v10 = some r := h
      unfold f_X3_nightOfMostSigns_l10 at h
      refine lv_iload hx hb dX3_nightOfMostSigns_10 (lv_at hl 4 rfl) ?_
      refine lv_bipush (v := 16) hx hb dX3_nightOfMostSigns_12 (by decide) ?_
      refine lv_icmp_ge (tgt := 112) hx hb dX3_nightOfMostSigns_14 (by decide) (fun e1 => ?_) (fun e1 => ?_)
      · replace h := q_t e1 h
        refine lv_iload_n hx hb dX3_nightOfMostSigns_112 rfl (lv_at hl 3 rfl) ?_
        cases h
        exact E _ _ _ _ _ hW rfl rfl dX3_nightOfMostSigns_113
      · replace h := q_f e1 h
        refine lv_iconst (v := 0) hx hb dX3_nightOfMostSigns_17 (by decide) ?_
        refine lv_istore (lv' := [(5, .int 0), (0, .ref (A b)), (1, .int v10.1), (2, .int v10.2.1), (3, .int v10.2.2.1), (4, .int v10.2.2.2)]) hx hb dX3_nightOfMostSigns_18 hl (by decide) rfl (fun ls hl => ?_)
        refine lv_iload hx hb dX3_nightOfMostSigns_20 (lv_at hl 5 rfl) ?_
        refine lv_istore (lv' := [(6, .int v10.2.2.2), (5, .int 0), (0, .ref (A b)), (1, .int v10.1), (2, .int v10.2.1), (3, .int v10.2.2.1), (4, .int v10.2.2.2)]) hx hb dX3_nightOfMostSigns_22 hl (by decide) rfl (fun ls hl => ?_)
        have L24 : ∀ n24 : Nat, ∀ (v24 : Int32 × Int32 × Int32 × Int32 × Int32), lpN (f_X3_nightOfMostSigns_l24 x (lpN (f_X3_nightOfMostSigns_l10 x) n10) v10) n24 v24 = some r → ∀ (H : Heap) (locs : List Loc), WdG g Z s.heap H locs [[(A b, .inr (3, [.ref (A (b + 1)), .ref (A (b + 4)), .ref (A (b + 7)), .ref (A (b + 10)), .ref (A (b + 11)), .int x.2.2.2.2.2.1, .int x.2.2.2.2.2.2.1, .int x.2.2.2.2.2.2.2.1, .int x.2.2.2.2.2.2.2.2.1, .int x.2.2.2.2.2.2.2.2.2]))], wX4 g A (b + 1) x.1, wX4 g A (b + 4) x.2.1, wX4 g A (b + 7) x.2.2.1, [(A (b + 10), .inl (gI g, 3, .inl x.2.2.2.1))], [(A (b + 11), .inl (gI g, 2, .inl x.2.2.2.2.1))]] → ∀ ls : Array Slot, lv_has ls 9 [(0, .ref (A b)), (1, .int v24.1), (2, .int v24.2.1), (3, .int v24.2.2.1), (4, .int v10.2.2.2), (5, .int v24.2.2.2.1), (6, .int v24.2.2.2.2)] → W p l e R s m args below meth c H locs 0 0 Q (F0 m 24 ls []) := by
          intro n24
          induction n24 with
          | zero => intro v24 h; exact absurd (show none = some r from h) (fun h => by cases h)
          | succ n24 ih24 =>
            intro v24 h H locs hW ls hl
            replace h : f_X3_nightOfMostSigns_l24 x (lpN (f_X3_nightOfMostSigns_l10 x) n10) v10 (lpN (f_X3_nightOfMostSigns_l24 x (lpN (f_X3_nightOfMostSigns_l10 x) n10) v10) n24) v24 = some r := h
            unfold f_X3_nightOfMostSigns_l24 at h
            refine lv_iload hx hb dX3_nightOfMostSigns_24 (lv_at hl 6 rfl) ?_
            refine lv_bipush (v := 16) hx hb dX3_nightOfMostSigns_26 (by decide) ?_
            refine lv_icmp_ge (tgt := 106) hx hb dX3_nightOfMostSigns_28 (by decide) (fun e2 => ?_) (fun e2 => ?_)
            · replace h := q_t e2 h
              refine lv_iinc (v := (v10.2.2.2 + 1)) (lv' := [(4, .int (v10.2.2.2 + 1)), (0, .ref (A b)), (1, .int v24.1), (2, .int v24.2.1), (3, .int v24.2.2.1), (5, .int v24.2.2.2.1), (6, .int v24.2.2.2.2)]) hx hb dX3_nightOfMostSigns_106 hl (k := 4) rfl rfl (by decide) rfl (fun ls hl => ?_)
              refine lv_goto (tgt := 10) hx hb dX3_nightOfMostSigns_109 (by decide) ?_
              exact ih10 (v24.1, v24.2.1, v24.2.2.1, (v10.2.2.2 + 1)) h _ _ hW _ (lv_sub hl [1, 2, 3, 4, 0] rfl)
            · replace h := q_f e2 h
              refine lv_iload hx hb dX3_nightOfMostSigns_31 (lv_at hl 5 rfl) ?_
              refine lv_aload_n hx hb dX3_nightOfMostSigns_33 rfl (lv_at hl 0 rfl) ?_
              refine lv_iload hx hb dX3_nightOfMostSigns_34 (lv_at hl 6 rfl) ?_
              obtain ⟨t3, h4, h⟩ := q_b h
              refine r_cVi C hW (nA := 1) (As := [.int v24.2.2.2.2]) (rest := [.int v24.2.2.2.1]) (c_X3_countFaded l g A b x v24.2.2.2.2 _ h4) gX3_nightOfMostSigns_X3_countFaded rfl ⟨rfl, wo_X3_countFaded⟩ (rmk hR rfl rfl) rfl rfl rfl rfl hl.1 (Nat.le_of_ble_eq_true rfl) rz dX3_nightOfMostSigns_36 (n := 6) (is := [0, 1, 2, 3, 4, 5]) (rs := []) (bs' := [[(A b, .inr (3, [.ref (A (b + 1)), .ref (A (b + 4)), .ref (A (b + 7)), .ref (A (b + 10)), .ref (A (b + 11)), .int x.2.2.2.2.2.1, .int x.2.2.2.2.2.2.1, .int x.2.2.2.2.2.2.2.1, .int x.2.2.2.2.2.2.2.2.1, .int x.2.2.2.2.2.2.2.2.2]))], wX4 g A (b + 1) x.1, wX4 g A (b + 4) x.2.1, wX4 g A (b + 7) x.2.2.1, [(A (b + 10), .inl (gI g, 3, .inl x.2.2.2.1))], [(A (b + 11), .inl (gI g, 2, .inl x.2.2.2.2.1))]]) rfl rfl pm_232c3c4a rfl rfl rfl (fun H locs hW => ?_)
              refine lv_iadd hx hb dX3_nightOfMostSigns_39 ?_
              refine lv_istore (lv' := [(5, .int (v24.2.2.2.1 + t3)), (0, .ref (A b)), (1, .int v24.1), (2, .int v24.2.1), (3, .int v24.2.2.1), (4, .int v10.2.2.2), (6, .int v24.2.2.2.2)]) hx hb dX3_nightOfMostSigns_40 hl (by decide) rfl (fun ls hl => ?_)
              refine lv_iload hx hb dX3_nightOfMostSigns_42 (lv_at hl 0 rfl) ?_
              refine lv_aload_n hx hb dX3_nightOfMostSigns_44 rfl (lv_at hl 1 rfl) ?_
              obtain ⟨t5, h6, h⟩ := q_b h
              refine r_cVi C hW (nA := 0) (As := []) (rest := [.int (v24.2.2.2.1 + t3)]) (c_X3_crewLimit l g A b x _ h6) gX3_nightOfMostSigns_X3_crewLimit rfl ⟨rfl, wo_X3_crewLimit⟩ (rmk hR rfl rfl) rfl rfl rfl rfl hl.1 (Nat.le_of_ble_eq_true rfl) rz dX3_nightOfMostSigns_45 (n := 6) (is := [0, 1, 2, 3, 4, 5]) (rs := []) (bs' := [[(A b, .inr (3, [.ref (A (b + 1)), .ref (A (b + 4)), .ref (A (b + 7)), .ref (A (b + 10)), .ref (A (b + 11)), .int x.2.2.2.2.2.1, .int x.2.2.2.2.2.2.1, .int x.2.2.2.2.2.2.2.1, .int x.2.2.2.2.2.2.2.2.1, .int x.2.2.2.2.2.2.2.2.2]))], wX4 g A (b + 1) x.1, wX4 g A (b + 4) x.2.1, wX4 g A (b + 7) x.2.2.1, [(A (b + 10), .inl (gI g, 3, .inl x.2.2.2.1))], [(A (b + 11), .inl (gI g, 2, .inl x.2.2.2.2.1))]]) rfl rfl pm_232c3c4a rfl rfl rfl (fun H locs hW => ?_)
              refine r_min C hl.1 (List.mem_of_getElem? (i := 1) rfl) (List.mem_of_getElem? (i := 2) rfl) (List.mem_of_getElem? (i := 3) rfl) (List.mem_of_getElem? (i := 4) rfl) (rmk hR rfl rfl) rz dX3_nightOfMostSigns_48 ?_
              refine lv_istore (lv' := [(7, .int (if t5 < (v24.2.2.2.1 + t3) then t5 else (v24.2.2.2.1 + t3))), (5, .int (v24.2.2.2.1 + t3)), (0, .ref (A b)), (1, .int v24.1), (2, .int v24.2.1), (3, .int v24.2.2.1), (4, .int v10.2.2.2), (6, .int v24.2.2.2.2)]) hx hb dX3_nightOfMostSigns_51 hl (by decide) rfl (fun ls hl => ?_)
              refine lv_iload hx hb dX3_nightOfMostSigns_53 (lv_at hl 7 rfl) ?_
              refine lv_iload hx hb dX3_nightOfMostSigns_55 (lv_at hl 6 rfl) ?_
              refine lv_isub hx hb dX3_nightOfMostSigns_57 ?_
              refine lv_iconst (v := 1) hx hb dX3_nightOfMostSigns_58 (by decide) ?_
              refine lv_iadd hx hb dX3_nightOfMostSigns_59 ?_
              refine lv_istore (lv' := [(8, .int ((v24.2.2.2.2 - v10.2.2.2) + 1)), (7, .int (if t5 < (v24.2.2.2.1 + t3) then t5 else (v24.2.2.2.1 + t3))), (5, .int (v24.2.2.2.1 + t3)), (0, .ref (A b)), (1, .int v24.1), (2, .int v24.2.1), (3, .int v24.2.2.1), (4, .int v10.2.2.2), (6, .int v24.2.2.2.2)]) hx hb dX3_nightOfMostSigns_60 hl (by decide) rfl (fun ls hl => ?_)
              refine lv_iload hx hb dX3_nightOfMostSigns_62 (lv_at hl 1 rfl) ?_
              refine lv_iload_n hx hb dX3_nightOfMostSigns_64 rfl (lv_at hl 4 rfl) ?_
              have J85 : ∀ (w85 : Unit), f_X3_nightOfMostSigns_j85 v10 (lpN (f_X3_nightOfMostSigns_l24 x (lpN (f_X3_nightOfMostSigns_l10 x) n10) v10) n24) v24 t3 t5 w85 = some r → ∀ (H : Heap) (locs : List Loc), WdG g Z s.heap H locs [[(A b, .inr (3, [.ref (A (b + 1)), .ref (A (b + 4)), .ref (A (b + 7)), .ref (A (b + 10)), .ref (A (b + 11)), .int x.2.2.2.2.2.1, .int x.2.2.2.2.2.2.1, .int x.2.2.2.2.2.2.2.1, .int x.2.2.2.2.2.2.2.2.1, .int x.2.2.2.2.2.2.2.2.2]))], wX4 g A (b + 1) x.1, wX4 g A (b + 4) x.2.1, wX4 g A (b + 7) x.2.2.1, [(A (b + 10), .inl (gI g, 3, .inl x.2.2.2.1))], [(A (b + 11), .inl (gI g, 2, .inl x.2.2.2.2.1))]] → ∀ ls : Array Slot, lv_has ls 9 [(0, .ref (A b)), (4, .int v10.2.2.2), (5, .int (v24.2.2.2.1 + t3)), (6, .int v24.2.2.2.2), (7, .int (if t5 < (v24.2.2.2.1 + t3) then t5 else (v24.2.2.2.1 + t3))), (8, .int ((v24.2.2.2.2 - v10.2.2.2) + 1))] → W p l e R s m args below meth c H locs 0 0 Q (F0 m 85 ls []) := by
                intro w85 h H locs hW ls hl
                unfold f_X3_nightOfMostSigns_j85 at h
                refine lv_iload hx hb dX3_nightOfMostSigns_85 (lv_at hl 4 rfl) ?_
                refine lv_istore_n (lv' := [(1, .int (if t5 < (v24.2.2.2.1 + t3) then t5 else (v24.2.2.2.1 + t3))), (0, .ref (A b)), (4, .int v10.2.2.2), (5, .int (v24.2.2.2.1 + t3)), (6, .int v24.2.2.2.2), (7, .int (if t5 < (v24.2.2.2.1 + t3) then t5 else (v24.2.2.2.1 + t3))), (8, .int ((v24.2.2.2.2 - v10.2.2.2) + 1))]) hx hb dX3_nightOfMostSigns_87 rfl hl (by decide) rfl (fun ls hl => ?_)
                refine lv_iload hx hb dX3_nightOfMostSigns_88 (lv_at hl 6 rfl) ?_
                refine lv_istore_n (lv' := [(2, .int ((v24.2.2.2.2 - v10.2.2.2) + 1)), (1, .int (if t5 < (v24.2.2.2.1 + t3) then t5 else (v24.2.2.2.1 + t3))), (0, .ref (A b)), (4, .int v10.2.2.2), (5, .int (v24.2.2.2.1 + t3)), (6, .int v24.2.2.2.2), (7, .int (if t5 < (v24.2.2.2.1 + t3) then t5 else (v24.2.2.2.1 + t3))), (8, .int ((v24.2.2.2.2 - v10.2.2.2) + 1))]) hx hb dX3_nightOfMostSigns_90 rfl hl (by decide) rfl (fun ls hl => ?_)
                refine lv_bipush (v := 16) hx hb dX3_nightOfMostSigns_91 (by decide) ?_
                refine lv_iload hx hb dX3_nightOfMostSigns_93 (lv_at hl 3 rfl) ?_
                refine lv_imul hx hb dX3_nightOfMostSigns_95 ?_
                refine lv_iload hx hb dX3_nightOfMostSigns_96 (lv_at hl 5 rfl) ?_
                refine lv_iadd hx hb dX3_nightOfMostSigns_98 ?_
                refine lv_istore_n (lv' := [(3, .int ((16 * v10.2.2.2) + v24.2.2.2.2)), (2, .int ((v24.2.2.2.2 - v10.2.2.2) + 1)), (1, .int (if t5 < (v24.2.2.2.1 + t3) then t5 else (v24.2.2.2.1 + t3))), (0, .ref (A b)), (4, .int v10.2.2.2), (5, .int (v24.2.2.2.1 + t3)), (6, .int v24.2.2.2.2), (7, .int (if t5 < (v24.2.2.2.1 + t3) then t5 else (v24.2.2.2.1 + t3))), (8, .int ((v24.2.2.2.2 - v10.2.2.2) + 1))]) hx hb dX3_nightOfMostSigns_99 rfl hl (by decide) rfl (fun ls hl => ?_)
                refine lv_iinc (v := (v24.2.2.2.2 + 1)) (lv' := [(6, .int (v24.2.2.2.2 + 1)), (3, .int ((16 * v10.2.2.2) + v24.2.2.2.2)), (2, .int ((v24.2.2.2.2 - v10.2.2.2) + 1)), (1, .int (if t5 < (v24.2.2.2.1 + t3) then t5 else (v24.2.2.2.1 + t3))), (0, .ref (A b)), (4, .int v10.2.2.2), (5, .int (v24.2.2.2.1 + t3)), (7, .int (if t5 < (v24.2.2.2.1 + t3) then t5 else (v24.2.2.2.1 + t3))), (8, .int ((v24.2.2.2.2 - v10.2.2.2) + 1))]) hx hb dX3_nightOfMostSigns_100 hl (k := 6) rfl rfl (by decide) rfl (fun ls hl => ?_)
                refine lv_goto (tgt := 24) hx hb dX3_nightOfMostSigns_103 (by decide) ?_
                exact ih24 ((if t5 < (v24.2.2.2.1 + t3) then t5 else (v24.2.2.2.1 + t3)), ((v24.2.2.2.2 - v10.2.2.2) + 1), ((16 * v10.2.2.2) + v24.2.2.2.2), (v24.2.2.2.1 + t3), (v24.2.2.2.2 + 1)) h _ _ hW _ (lv_sub hl [4, 3, 2, 1, 5, 6, 0] rfl)
              refine lv_icmp_gt (tgt := 85) hx hb dX3_nightOfMostSigns_65 (by decide) (fun e7 => ?_) (fun e7 => ?_)
              · replace h := q_t e7 h
                exact J85 () h _ _ hW _ (lv_sub hl [3, 7, 2, 8, 1, 0] rfl)
              · replace h := q_f e7 h
                refine lv_iload hx hb dX3_nightOfMostSigns_68 (lv_at hl 1 rfl) ?_
                refine lv_if_le (tgt := 100) hx hb dX3_nightOfMostSigns_70 (by decide) (fun e8 => ?_) (fun e8 => ?_)
                · replace h := q_t e8 h
                  refine lv_iinc (v := (v24.2.2.2.2 + 1)) (lv' := [(6, .int (v24.2.2.2.2 + 1)), (8, .int ((v24.2.2.2.2 - v10.2.2.2) + 1)), (7, .int (if t5 < (v24.2.2.2.1 + t3) then t5 else (v24.2.2.2.1 + t3))), (5, .int (v24.2.2.2.1 + t3)), (0, .ref (A b)), (1, .int v24.1), (2, .int v24.2.1), (3, .int v24.2.2.1), (4, .int v10.2.2.2)]) hx hb dX3_nightOfMostSigns_100 hl (k := 8) rfl rfl (by decide) rfl (fun ls hl => ?_)
                  refine lv_goto (tgt := 24) hx hb dX3_nightOfMostSigns_103 (by decide) ?_
                  exact ih24 (v24.1, v24.2.1, v24.2.2.1, (v24.2.2.2.1 + t3), (v24.2.2.2.2 + 1)) h _ _ hW _ (lv_sub hl [4, 5, 6, 7, 8, 3, 0] rfl)
                · replace h := q_f e8 h
                  refine lv_iload hx hb dX3_nightOfMostSigns_73 (lv_at hl 1 rfl) ?_
                  refine lv_iload_n hx hb dX3_nightOfMostSigns_75 rfl (lv_at hl 4 rfl) ?_
                  refine lv_icmp_ne (tgt := 100) hx hb dX3_nightOfMostSigns_76 (by decide) (fun e9 => ?_) (fun e9 => ?_)
                  · replace h := q_f e9 h
                    refine lv_iinc (v := (v24.2.2.2.2 + 1)) (lv' := [(6, .int (v24.2.2.2.2 + 1)), (8, .int ((v24.2.2.2.2 - v10.2.2.2) + 1)), (7, .int (if t5 < (v24.2.2.2.1 + t3) then t5 else (v24.2.2.2.1 + t3))), (5, .int (v24.2.2.2.1 + t3)), (0, .ref (A b)), (1, .int v24.1), (2, .int v24.2.1), (3, .int v24.2.2.1), (4, .int v10.2.2.2)]) hx hb dX3_nightOfMostSigns_100 hl (k := 8) rfl rfl (by decide) rfl (fun ls hl => ?_)
                    refine lv_goto (tgt := 24) hx hb dX3_nightOfMostSigns_103 (by decide) ?_
                    exact ih24 (v24.1, v24.2.1, v24.2.2.1, (v24.2.2.2.1 + t3), (v24.2.2.2.2 + 1)) h _ _ hW _ (lv_sub hl [4, 5, 6, 7, 8, 3, 0] rfl)
                  · replace h := q_t e9 h
                    refine lv_iload hx hb dX3_nightOfMostSigns_79 (lv_at hl 0 rfl) ?_
                    refine lv_iload_n hx hb dX3_nightOfMostSigns_81 rfl (lv_at hl 5 rfl) ?_
                    refine lv_icmp_ge (tgt := 100) hx hb dX3_nightOfMostSigns_82 (by decide) (fun e10 => ?_) (fun e10 => ?_)
                    · replace h := q_t e10 h
                      refine lv_iinc (v := (v24.2.2.2.2 + 1)) (lv' := [(6, .int (v24.2.2.2.2 + 1)), (8, .int ((v24.2.2.2.2 - v10.2.2.2) + 1)), (7, .int (if t5 < (v24.2.2.2.1 + t3) then t5 else (v24.2.2.2.1 + t3))), (5, .int (v24.2.2.2.1 + t3)), (0, .ref (A b)), (1, .int v24.1), (2, .int v24.2.1), (3, .int v24.2.2.1), (4, .int v10.2.2.2)]) hx hb dX3_nightOfMostSigns_100 hl (k := 8) rfl rfl (by decide) rfl (fun ls hl => ?_)
                      refine lv_goto (tgt := 24) hx hb dX3_nightOfMostSigns_103 (by decide) ?_
                      exact ih24 (v24.1, v24.2.1, v24.2.2.1, (v24.2.2.2.1 + t3), (v24.2.2.2.2 + 1)) h _ _ hW _ (lv_sub hl [4, 5, 6, 7, 8, 3, 0] rfl)
                    · replace h := q_f e10 h
                      exact J85 () h _ _ hW _ (lv_sub hl [3, 7, 2, 8, 1, 0] rfl)
        exact L24 3000 (v10.1, v10.2.1, v10.2.2.1, 0, v10.2.2.2) h _ _ hW _ (lv_sub hl [2, 3, 4, 5, 6, 1, 0] rfl)
  exact L10 3000 (0, 0, (-6), 0) h _ _ hW _ (lv_sub hl [4, 3, 2, 1, 0] rfl)
