def f_X6_total (x : TX6s) (p1 : Int32) : Option (Int32) :=
if p1 < 0 then (
some (-2))
else if 14 < p1 then (
some (-2))
else if p1 = 0 then (
(f_X6_cellSigns x 0).bind fun t4 =>
some t4)
else if p1 = 1 then (
(f_X6_cellSigns x 2).bind fun t7 =>
some t7)
else if p1 = 2 then (
(f_X6_dashes x).bind fun t10 =>
some t10)
else if p1 = 3 then (
(f_X6_readable x).bind fun t13 =>
some t13)
else if p1 = 4 then (
if ((5 + p1) - 4) < 0 ∨ 268 ≤ ((5 + p1) - 4).toNatClampNeg then none else
some (x.1 ((5 + p1) - 4).toNatClampNeg))
else if p1 = 5 then (
if ((5 + p1) - 4) < 0 ∨ 268 ≤ ((5 + p1) - 4).toNatClampNeg then none else
some (x.1 ((5 + p1) - 4).toNatClampNeg))
else if p1 = 6 then (
if ((5 + p1) - 4) < 0 ∨ 268 ≤ ((5 + p1) - 4).toNatClampNeg then none else
some (x.1 ((5 + p1) - 4).toNatClampNeg))
else if p1 = 7 then (
if ((5 + p1) - 4) < 0 ∨ 268 ≤ ((5 + p1) - 4).toNatClampNeg then none else
some (x.1 ((5 + p1) - 4).toNatClampNeg))
else if p1 = 8 then (
if ((5 + p1) - 4) < 0 ∨ 268 ≤ ((5 + p1) - 4).toNatClampNeg then none else
some (x.1 ((5 + p1) - 4).toNatClampNeg))
else if p1 = 9 then (
(f_X6_strengths x).bind fun t26 =>
some t26)
else if p1 = 10 then (
if ((2 + p1) - 10) < 0 ∨ 268 ≤ ((2 + p1) - 10).toNatClampNeg then none else
some (x.1 ((2 + p1) - 10).toNatClampNeg))
else if p1 = 11 then (
if ((2 + p1) - 10) < 0 ∨ 268 ≤ ((2 + p1) - 10).toNatClampNeg then none else
some (x.1 ((2 + p1) - 10).toNatClampNeg))
else if p1 = 12 then (
if ((2 + p1) - 10) < 0 ∨ 268 ≤ ((2 + p1) - 10).toNatClampNeg then none else
some (x.1 ((2 + p1) - 10).toNatClampNeg))
else if p1 = 13 then (
if (p1 - 13) < 0 ∨ 268 ≤ (p1 - 13).toNatClampNeg then none else
some (x.1 (p1 - 13).toNatClampNeg))
else if p1 = 14 then (
if (p1 - 13) < 0 ∨ 268 ≤ (p1 - 13).toNatClampNeg then none else
some (x.1 (p1 - 13).toNatClampNeg))
else none
theorem wo_X6_total : wordsOk yX6_total 1 := by decide +kernel
theorem inX6_total_X6 : ∀ w ∈ wsX60, w ∈ wsX6_total := fun _ h => List.mem_cons_of_mem _ (List.mem_append_right _ h)
set_option maxHeartbeats 4000000 in
set_option maxRecDepth 100000 in
theorem c_X6_total (l : Launch) (g : GG) (A : Nat → Nat) (b : Nat) (x : TX6s) (p1 : Int32) (r : Int32) (h : f_X6_total x p1 = some r) : CI l yX6_total wsX6_total 3 67 g [.ref (A b), .int p1] (wX6 g A b x) r (wX6 g A b x) := by
  refine CI.mk (own := RX6) (by decide) rfl rfl (Nat.le_of_ble_eq_true rfl) ?_
  intro p e R s m args below meth c Z Q C E hR H hW ls hl
  have hx := C.1.1
  have hb := C.1.2.1
  have hown := C.1.2.2.2.1
  replace hW : WdG g Z s.heap H [] [[(A b, .inr (6, [.ref (A (b + 1)), .ref (A (b + 2)), .int x.2.2.1, .ref (A (b + 3)), .int x.2.2.2.2.1, .ref (A (b + 4)), .int x.2.2.2.2.2.2.1, .ref (A (b + 5)), .ref (A (b + 6)), .int x.2.2.2.2.2.2.2.2.2.1, .int x.2.2.2.2.2.2.2.2.2.2.1, .int x.2.2.2.2.2.2.2.2.2.2.2]))], [(A (b + 1), .inl (gI g, 268, .inl x.1))], [(A (b + 2), .inl (gI g, 1340, .inl x.2.1))], [(A (b + 3), .inl (gI g, 268, .inl x.2.2.2.1))], [(A (b + 4), .inl (gC g, 70, .inl x.2.2.2.2.2.1))], [(A (b + 5), .inl (gI g, 3, .inl x.2.2.2.2.2.2.2.1))], [(A (b + 6), .inl (gI g, 144, .inl x.2.2.2.2.2.2.2.2.1))]] := hW.re rfl
  replace hl : lv_has ls 2 [(0, .ref (A b)), (1, .int p1)] := hl
  unfold f_X6_total at h
  refine lv_iload_n hx hb dX6_total_0 rfl (lv_at hl 1 rfl) ?_
  by_cases e1 : p1 < 0
  · replace h := q_t e1 h
    refine lv_tableOut (tgt := 136) hx hb dX6_total_1 (tb_lo e1 rfl) (by decide) ?_
    refine lv_bipush (v := (-2)) hx hb dX6_total_136 (by decide) ?_
    cases h
    exact E _ _ _ _ _ hW rfl rfl dX6_total_138
  · replace h := q_f e1 h
    by_cases e2 : 14 < p1
    · replace h := q_t e2 h
      refine lv_tableOut (tgt := 136) hx hb dX6_total_1 (tb_hi e2 rfl) (by decide) ?_
      refine lv_bipush (v := (-2)) hx hb dX6_total_136 (by decide) ?_
      cases h
      exact E _ _ _ _ _ hW rfl rfl dX6_total_138
    · replace h := q_f e2 h
      by_cases e3 : p1 = 0
      · replace h := q_t e3 h
        have tb := tb_in e3 (lo := 0) (hi := 14) (offs := #[75, 81, 87, 92, 97, 97, 97, 97, 97, 108, 113, 113, 113, 125, 125]) (off := 75) (by decide)
        refine lv_tableIn (tgt := 76) hx hb dX6_total_1 tb.1 tb.2.1 tb.2.2 (by decide) ?_
        refine lv_aload_n hx hb dX6_total_76 rfl (lv_at hl 0 rfl) ?_
        refine lv_iconst (v := 0) hx hb dX6_total_77 (by decide) ?_
        obtain ⟨t4, h5, h⟩ := q_b h
        refine r_cVi C hW (nA := 1) (As := [.int 0]) (rest := []) (c_X6_cellSigns l g A b x 0 _ h5) gX6_total_X6_cellSigns rfl ⟨rfl, wo_X6_cellSigns⟩ (rmk hR rfl rfl) rfl rfl rfl rfl hl.1 (Nat.le_of_ble_eq_true rfl) rz dX6_total_78 (n := 7) (is := [0, 1, 2, 3, 4, 5, 6]) (rs := []) (bs' := [[(A b, .inr (6, [.ref (A (b + 1)), .ref (A (b + 2)), .int x.2.2.1, .ref (A (b + 3)), .int x.2.2.2.2.1, .ref (A (b + 4)), .int x.2.2.2.2.2.2.1, .ref (A (b + 5)), .ref (A (b + 6)), .int x.2.2.2.2.2.2.2.2.2.1, .int x.2.2.2.2.2.2.2.2.2.2.1, .int x.2.2.2.2.2.2.2.2.2.2.2]))], [(A (b + 1), .inl (gI g, 268, .inl x.1))], [(A (b + 2), .inl (gI g, 1340, .inl x.2.1))], [(A (b + 3), .inl (gI g, 268, .inl x.2.2.2.1))], [(A (b + 4), .inl (gC g, 70, .inl x.2.2.2.2.2.1))], [(A (b + 5), .inl (gI g, 3, .inl x.2.2.2.2.2.2.2.1))], [(A (b + 6), .inl (gI g, 144, .inl x.2.2.2.2.2.2.2.2.1))]]) rfl rfl pm_39 rfl rfl rfl (fun H locs hW => ?_)
        cases h
        exact E _ _ _ _ _ hW rfl rfl dX6_total_81
      · replace h := q_f e3 h
        by_cases e6 : p1 = 1
        · replace h := q_t e6 h
          have tb := tb_in e6 (lo := 0) (hi := 14) (offs := #[75, 81, 87, 92, 97, 97, 97, 97, 97, 108, 113, 113, 113, 125, 125]) (off := 81) (by decide)
          refine lv_tableIn (tgt := 82) hx hb dX6_total_1 tb.1 tb.2.1 tb.2.2 (by decide) ?_
          refine lv_aload_n hx hb dX6_total_82 rfl (lv_at hl 0 rfl) ?_
          refine lv_iconst (v := 2) hx hb dX6_total_83 (by decide) ?_
          obtain ⟨t7, h8, h⟩ := q_b h
          refine r_cVi C hW (nA := 1) (As := [.int 2]) (rest := []) (c_X6_cellSigns l g A b x 2 _ h8) gX6_total_X6_cellSigns rfl ⟨rfl, wo_X6_cellSigns⟩ (rmk hR rfl rfl) rfl rfl rfl rfl hl.1 (Nat.le_of_ble_eq_true rfl) rz dX6_total_84 (n := 7) (is := [0, 1, 2, 3, 4, 5, 6]) (rs := []) (bs' := [[(A b, .inr (6, [.ref (A (b + 1)), .ref (A (b + 2)), .int x.2.2.1, .ref (A (b + 3)), .int x.2.2.2.2.1, .ref (A (b + 4)), .int x.2.2.2.2.2.2.1, .ref (A (b + 5)), .ref (A (b + 6)), .int x.2.2.2.2.2.2.2.2.2.1, .int x.2.2.2.2.2.2.2.2.2.2.1, .int x.2.2.2.2.2.2.2.2.2.2.2]))], [(A (b + 1), .inl (gI g, 268, .inl x.1))], [(A (b + 2), .inl (gI g, 1340, .inl x.2.1))], [(A (b + 3), .inl (gI g, 268, .inl x.2.2.2.1))], [(A (b + 4), .inl (gC g, 70, .inl x.2.2.2.2.2.1))], [(A (b + 5), .inl (gI g, 3, .inl x.2.2.2.2.2.2.2.1))], [(A (b + 6), .inl (gI g, 144, .inl x.2.2.2.2.2.2.2.2.1))]]) rfl rfl pm_39 rfl rfl rfl (fun H locs hW => ?_)
          cases h
          exact E _ _ _ _ _ hW rfl rfl dX6_total_87
        · replace h := q_f e6 h
          by_cases e9 : p1 = 2
          · replace h := q_t e9 h
            have tb := tb_in e9 (lo := 0) (hi := 14) (offs := #[75, 81, 87, 92, 97, 97, 97, 97, 97, 108, 113, 113, 113, 125, 125]) (off := 87) (by decide)
            refine lv_tableIn (tgt := 88) hx hb dX6_total_1 tb.1 tb.2.1 tb.2.2 (by decide) ?_
            refine lv_aload_n hx hb dX6_total_88 rfl (lv_at hl 0 rfl) ?_
            obtain ⟨t10, h11, h⟩ := q_b h
            refine r_cVi C hW (nA := 0) (As := []) (rest := []) (c_X6_dashes l g A b x _ h11) gX6_total_X6_dashes rfl ⟨rfl, wo_X6_dashes⟩ (rmk hR rfl rfl) rfl rfl rfl rfl hl.1 (Nat.le_of_ble_eq_true rfl) rz dX6_total_89 (n := 7) (is := [0, 1, 2, 3, 4, 5, 6]) (rs := []) (bs' := [[(A b, .inr (6, [.ref (A (b + 1)), .ref (A (b + 2)), .int x.2.2.1, .ref (A (b + 3)), .int x.2.2.2.2.1, .ref (A (b + 4)), .int x.2.2.2.2.2.2.1, .ref (A (b + 5)), .ref (A (b + 6)), .int x.2.2.2.2.2.2.2.2.2.1, .int x.2.2.2.2.2.2.2.2.2.2.1, .int x.2.2.2.2.2.2.2.2.2.2.2]))], [(A (b + 1), .inl (gI g, 268, .inl x.1))], [(A (b + 2), .inl (gI g, 1340, .inl x.2.1))], [(A (b + 3), .inl (gI g, 268, .inl x.2.2.2.1))], [(A (b + 4), .inl (gC g, 70, .inl x.2.2.2.2.2.1))], [(A (b + 5), .inl (gI g, 3, .inl x.2.2.2.2.2.2.2.1))], [(A (b + 6), .inl (gI g, 144, .inl x.2.2.2.2.2.2.2.2.1))]]) rfl rfl pm_39 rfl rfl rfl (fun H locs hW => ?_)
            cases h
            exact E _ _ _ _ _ hW rfl rfl dX6_total_92
          · replace h := q_f e9 h
            by_cases e12 : p1 = 3
            · replace h := q_t e12 h
              have tb := tb_in e12 (lo := 0) (hi := 14) (offs := #[75, 81, 87, 92, 97, 97, 97, 97, 97, 108, 113, 113, 113, 125, 125]) (off := 92) (by decide)
              refine lv_tableIn (tgt := 93) hx hb dX6_total_1 tb.1 tb.2.1 tb.2.2 (by decide) ?_
              refine lv_aload_n hx hb dX6_total_93 rfl (lv_at hl 0 rfl) ?_
              obtain ⟨t13, h14, h⟩ := q_b h
              refine r_cVi C hW (nA := 0) (As := []) (rest := []) (c_X6_readable l g A b x _ h14) gX6_total_X6_readable rfl ⟨rfl, wo_X6_readable⟩ (rmk hR rfl rfl) rfl rfl rfl rfl hl.1 (Nat.le_of_ble_eq_true rfl) rz dX6_total_94 (n := 7) (is := [0, 1, 2, 3, 4, 5, 6]) (rs := []) (bs' := [[(A b, .inr (6, [.ref (A (b + 1)), .ref (A (b + 2)), .int x.2.2.1, .ref (A (b + 3)), .int x.2.2.2.2.1, .ref (A (b + 4)), .int x.2.2.2.2.2.2.1, .ref (A (b + 5)), .ref (A (b + 6)), .int x.2.2.2.2.2.2.2.2.2.1, .int x.2.2.2.2.2.2.2.2.2.2.1, .int x.2.2.2.2.2.2.2.2.2.2.2]))], [(A (b + 1), .inl (gI g, 268, .inl x.1))], [(A (b + 2), .inl (gI g, 1340, .inl x.2.1))], [(A (b + 3), .inl (gI g, 268, .inl x.2.2.2.1))], [(A (b + 4), .inl (gC g, 70, .inl x.2.2.2.2.2.1))], [(A (b + 5), .inl (gI g, 3, .inl x.2.2.2.2.2.2.2.1))], [(A (b + 6), .inl (gI g, 144, .inl x.2.2.2.2.2.2.2.2.1))]]) rfl rfl pm_39 rfl rfl rfl (fun H locs hW => ?_)
              cases h
              exact E _ _ _ _ _ hW rfl rfl dX6_total_97
            · replace h := q_f e12 h
              by_cases e15 : p1 = 4
              · replace h := q_t e15 h
                have tb := tb_in e15 (lo := 0) (hi := 14) (offs := #[75, 81, 87, 92, 97, 97, 97, 97, 97, 108, 113, 113, 113, 125, 125]) (off := 97) (by decide)
                refine lv_tableIn (tgt := 98) hx hb dX6_total_1 tb.1 tb.2.1 tb.2.2 (by decide) ?_
                refine lv_aload_n hx hb dX6_total_98 rfl (lv_at hl 0 rfl) ?_
                refine r_get C hW (K := RX6) (T := TX6) (N := 12) (v := .ref (A (b + 1))) 0 0 0 rfl rfl rfl inX6_total_X6 (by decide) (List.mem_of_getElem? (i := 1) rfl) rfl rfl dX6_total_99 ?_
                refine lv_iconst (v := 5) hx hb dX6_total_102 (by decide) ?_
                refine lv_iload_n hx hb dX6_total_103 rfl (lv_at hl 1 rfl) ?_
                refine lv_iadd hx hb dX6_total_104 ?_
                refine lv_iconst (v := 4) hx hb dX6_total_105 (by decide) ?_
                refine lv_isub hx hb dX6_total_106 ?_
                obtain ⟨g16, h⟩ := q_g h
                refine r_iald C hW 1 0 rfl rfl g16 dX6_total_107 ?_
                cases h
                exact E _ _ _ _ _ hW rfl rfl dX6_total_108
              · replace h := q_f e15 h
                by_cases e17 : p1 = 5
                · replace h := q_t e17 h
                  have tb := tb_in e17 (lo := 0) (hi := 14) (offs := #[75, 81, 87, 92, 97, 97, 97, 97, 97, 108, 113, 113, 113, 125, 125]) (off := 97) (by decide)
                  refine lv_tableIn (tgt := 98) hx hb dX6_total_1 tb.1 tb.2.1 tb.2.2 (by decide) ?_
                  refine lv_aload_n hx hb dX6_total_98 rfl (lv_at hl 0 rfl) ?_
                  refine r_get C hW (K := RX6) (T := TX6) (N := 12) (v := .ref (A (b + 1))) 0 0 0 rfl rfl rfl inX6_total_X6 (by decide) (List.mem_of_getElem? (i := 1) rfl) rfl rfl dX6_total_99 ?_
                  refine lv_iconst (v := 5) hx hb dX6_total_102 (by decide) ?_
                  refine lv_iload_n hx hb dX6_total_103 rfl (lv_at hl 1 rfl) ?_
                  refine lv_iadd hx hb dX6_total_104 ?_
                  refine lv_iconst (v := 4) hx hb dX6_total_105 (by decide) ?_
                  refine lv_isub hx hb dX6_total_106 ?_
                  obtain ⟨g18, h⟩ := q_g h
                  refine r_iald C hW 1 0 rfl rfl g18 dX6_total_107 ?_
                  cases h
                  exact E _ _ _ _ _ hW rfl rfl dX6_total_108
                · replace h := q_f e17 h
                  by_cases e19 : p1 = 6
                  · replace h := q_t e19 h
                    have tb := tb_in e19 (lo := 0) (hi := 14) (offs := #[75, 81, 87, 92, 97, 97, 97, 97, 97, 108, 113, 113, 113, 125, 125]) (off := 97) (by decide)
                    refine lv_tableIn (tgt := 98) hx hb dX6_total_1 tb.1 tb.2.1 tb.2.2 (by decide) ?_
                    refine lv_aload_n hx hb dX6_total_98 rfl (lv_at hl 0 rfl) ?_
                    refine r_get C hW (K := RX6) (T := TX6) (N := 12) (v := .ref (A (b + 1))) 0 0 0 rfl rfl rfl inX6_total_X6 (by decide) (List.mem_of_getElem? (i := 1) rfl) rfl rfl dX6_total_99 ?_
                    refine lv_iconst (v := 5) hx hb dX6_total_102 (by decide) ?_
                    refine lv_iload_n hx hb dX6_total_103 rfl (lv_at hl 1 rfl) ?_
                    refine lv_iadd hx hb dX6_total_104 ?_
                    refine lv_iconst (v := 4) hx hb dX6_total_105 (by decide) ?_
                    refine lv_isub hx hb dX6_total_106 ?_
                    obtain ⟨g20, h⟩ := q_g h
                    refine r_iald C hW 1 0 rfl rfl g20 dX6_total_107 ?_
                    cases h
                    exact E _ _ _ _ _ hW rfl rfl dX6_total_108
                  · replace h := q_f e19 h
                    by_cases e21 : p1 = 7
                    · replace h := q_t e21 h
                      have tb := tb_in e21 (lo := 0) (hi := 14) (offs := #[75, 81, 87, 92, 97, 97, 97, 97, 97, 108, 113, 113, 113, 125, 125]) (off := 97) (by decide)
                      refine lv_tableIn (tgt := 98) hx hb dX6_total_1 tb.1 tb.2.1 tb.2.2 (by decide) ?_
                      refine lv_aload_n hx hb dX6_total_98 rfl (lv_at hl 0 rfl) ?_
                      refine r_get C hW (K := RX6) (T := TX6) (N := 12) (v := .ref (A (b + 1))) 0 0 0 rfl rfl rfl inX6_total_X6 (by decide) (List.mem_of_getElem? (i := 1) rfl) rfl rfl dX6_total_99 ?_
                      refine lv_iconst (v := 5) hx hb dX6_total_102 (by decide) ?_
                      refine lv_iload_n hx hb dX6_total_103 rfl (lv_at hl 1 rfl) ?_
                      refine lv_iadd hx hb dX6_total_104 ?_
                      refine lv_iconst (v := 4) hx hb dX6_total_105 (by decide) ?_
                      refine lv_isub hx hb dX6_total_106 ?_
                      obtain ⟨g22, h⟩ := q_g h
                      refine r_iald C hW 1 0 rfl rfl g22 dX6_total_107 ?_
                      cases h
                      exact E _ _ _ _ _ hW rfl rfl dX6_total_108
                    · replace h := q_f e21 h
                      by_cases e23 : p1 = 8
                      · replace h := q_t e23 h
                        have tb := tb_in e23 (lo := 0) (hi := 14) (offs := #[75, 81, 87, 92, 97, 97, 97, 97, 97, 108, 113, 113, 113, 125, 125]) (off := 97) (by decide)
                        refine lv_tableIn (tgt := 98) hx hb dX6_total_1 tb.1 tb.2.1 tb.2.2 (by decide) ?_
                        refine lv_aload_n hx hb dX6_total_98 rfl (lv_at hl 0 rfl) ?_
                        refine r_get C hW (K := RX6) (T := TX6) (N := 12) (v := .ref (A (b + 1))) 0 0 0 rfl rfl rfl inX6_total_X6 (by decide) (List.mem_of_getElem? (i := 1) rfl) rfl rfl dX6_total_99 ?_
                        refine lv_iconst (v := 5) hx hb dX6_total_102 (by decide) ?_
                        refine lv_iload_n hx hb dX6_total_103 rfl (lv_at hl 1 rfl) ?_
                        refine lv_iadd hx hb dX6_total_104 ?_
                        refine lv_iconst (v := 4) hx hb dX6_total_105 (by decide) ?_
                        refine lv_isub hx hb dX6_total_106 ?_
                        obtain ⟨g24, h⟩ := q_g h
                        refine r_iald C hW 1 0 rfl rfl g24 dX6_total_107 ?_
                        cases h
                        exact E _ _ _ _ _ hW rfl rfl dX6_total_108
                      · replace h := q_f e23 h
                        by_cases e25 : p1 = 9
                        · replace h := q_t e25 h
                          have tb := tb_in e25 (lo := 0) (hi := 14) (offs := #[75, 81, 87, 92, 97, 97, 97, 97, 97, 108, 113, 113, 113, 125, 125]) (off := 108) (by decide)
                          refine lv_tableIn (tgt := 109) hx hb dX6_total_1 tb.1 tb.2.1 tb.2.2 (by decide) ?_
                          refine lv_aload_n hx hb dX6_total_109 rfl (lv_at hl 0 rfl) ?_
                          obtain ⟨t26, h27, h⟩ := q_b h
                          refine r_cVi C hW (nA := 0) (As := []) (rest := []) (c_X6_strengths l g A b x _ h27) gX6_total_X6_strengths rfl ⟨rfl, wo_X6_strengths⟩ (rmk hR rfl rfl) rfl rfl rfl rfl hl.1 (Nat.le_of_ble_eq_true rfl) rz dX6_total_110 (n := 7) (is := [0, 1, 2, 3, 4, 5, 6]) (rs := []) (bs' := [[(A b, .inr (6, [.ref (A (b + 1)), .ref (A (b + 2)), .int x.2.2.1, .ref (A (b + 3)), .int x.2.2.2.2.1, .ref (A (b + 4)), .int x.2.2.2.2.2.2.1, .ref (A (b + 5)), .ref (A (b + 6)), .int x.2.2.2.2.2.2.2.2.2.1, .int x.2.2.2.2.2.2.2.2.2.2.1, .int x.2.2.2.2.2.2.2.2.2.2.2]))], [(A (b + 1), .inl (gI g, 268, .inl x.1))], [(A (b + 2), .inl (gI g, 1340, .inl x.2.1))], [(A (b + 3), .inl (gI g, 268, .inl x.2.2.2.1))], [(A (b + 4), .inl (gC g, 70, .inl x.2.2.2.2.2.1))], [(A (b + 5), .inl (gI g, 3, .inl x.2.2.2.2.2.2.2.1))], [(A (b + 6), .inl (gI g, 144, .inl x.2.2.2.2.2.2.2.2.1))]]) rfl rfl pm_39 rfl rfl rfl (fun H locs hW => ?_)
                          cases h
                          exact E _ _ _ _ _ hW rfl rfl dX6_total_113
                        · replace h := q_f e25 h
                          by_cases e28 : p1 = 10
                          · replace h := q_t e28 h
                            have tb := tb_in e28 (lo := 0) (hi := 14) (offs := #[75, 81, 87, 92, 97, 97, 97, 97, 97, 108, 113, 113, 113, 125, 125]) (off := 113) (by decide)
                            refine lv_tableIn (tgt := 114) hx hb dX6_total_1 tb.1 tb.2.1 tb.2.2 (by decide) ?_
                            refine lv_aload_n hx hb dX6_total_114 rfl (lv_at hl 0 rfl) ?_
                            refine r_get C hW (K := RX6) (T := TX6) (N := 12) (v := .ref (A (b + 1))) 0 0 0 rfl rfl rfl inX6_total_X6 (by decide) (List.mem_of_getElem? (i := 1) rfl) rfl rfl dX6_total_115 ?_
                            refine lv_iconst (v := 2) hx hb dX6_total_118 (by decide) ?_
                            refine lv_iload_n hx hb dX6_total_119 rfl (lv_at hl 1 rfl) ?_
                            refine lv_iadd hx hb dX6_total_120 ?_
                            refine lv_bipush (v := 10) hx hb dX6_total_121 (by decide) ?_
                            refine lv_isub hx hb dX6_total_123 ?_
                            obtain ⟨g29, h⟩ := q_g h
                            refine r_iald C hW 1 0 rfl rfl g29 dX6_total_124 ?_
                            cases h
                            exact E _ _ _ _ _ hW rfl rfl dX6_total_125
                          · replace h := q_f e28 h
                            by_cases e30 : p1 = 11
                            · replace h := q_t e30 h
                              have tb := tb_in e30 (lo := 0) (hi := 14) (offs := #[75, 81, 87, 92, 97, 97, 97, 97, 97, 108, 113, 113, 113, 125, 125]) (off := 113) (by decide)
                              refine lv_tableIn (tgt := 114) hx hb dX6_total_1 tb.1 tb.2.1 tb.2.2 (by decide) ?_
                              refine lv_aload_n hx hb dX6_total_114 rfl (lv_at hl 0 rfl) ?_
                              refine r_get C hW (K := RX6) (T := TX6) (N := 12) (v := .ref (A (b + 1))) 0 0 0 rfl rfl rfl inX6_total_X6 (by decide) (List.mem_of_getElem? (i := 1) rfl) rfl rfl dX6_total_115 ?_
                              refine lv_iconst (v := 2) hx hb dX6_total_118 (by decide) ?_
                              refine lv_iload_n hx hb dX6_total_119 rfl (lv_at hl 1 rfl) ?_
                              refine lv_iadd hx hb dX6_total_120 ?_
                              refine lv_bipush (v := 10) hx hb dX6_total_121 (by decide) ?_
                              refine lv_isub hx hb dX6_total_123 ?_
                              obtain ⟨g31, h⟩ := q_g h
                              refine r_iald C hW 1 0 rfl rfl g31 dX6_total_124 ?_
                              cases h
                              exact E _ _ _ _ _ hW rfl rfl dX6_total_125
                            · replace h := q_f e30 h
                              by_cases e32 : p1 = 12
                              · replace h := q_t e32 h
                                have tb := tb_in e32 (lo := 0) (hi := 14) (offs := #[75, 81, 87, 92, 97, 97, 97, 97, 97, 108, 113, 113, 113, 125, 125]) (off := 113) (by decide)
                                refine lv_tableIn (tgt := 114) hx hb dX6_total_1 tb.1 tb.2.1 tb.2.2 (by decide) ?_
                                refine lv_aload_n hx hb dX6_total_114 rfl (lv_at hl 0 rfl) ?_
                                refine r_get C hW (K := RX6) (T := TX6) (N := 12) (v := .ref (A (b + 1))) 0 0 0 rfl rfl rfl inX6_total_X6 (by decide) (List.mem_of_getElem? (i := 1) rfl) rfl rfl dX6_total_115 ?_
                                refine lv_iconst (v := 2) hx hb dX6_total_118 (by decide) ?_
                                refine lv_iload_n hx hb dX6_total_119 rfl (lv_at hl 1 rfl) ?_
                                refine lv_iadd hx hb dX6_total_120 ?_
                                refine lv_bipush (v := 10) hx hb dX6_total_121 (by decide) ?_
                                refine lv_isub hx hb dX6_total_123 ?_
                                obtain ⟨g33, h⟩ := q_g h
                                refine r_iald C hW 1 0 rfl rfl g33 dX6_total_124 ?_
                                cases h
                                exact E _ _ _ _ _ hW rfl rfl dX6_total_125
                              · replace h := q_f e32 h
                                by_cases e34 : p1 = 13
                                · replace h := q_t e34 h
                                  have tb := tb_in e34 (lo := 0) (hi := 14) (offs := #[75, 81, 87, 92, 97, 97, 97, 97, 97, 108, 113, 113, 113, 125, 125]) (off := 125) (by decide)
                                  refine lv_tableIn (tgt := 126) hx hb dX6_total_1 tb.1 tb.2.1 tb.2.2 (by decide) ?_
                                  refine lv_aload_n hx hb dX6_total_126 rfl (lv_at hl 0 rfl) ?_
                                  refine r_get C hW (K := RX6) (T := TX6) (N := 12) (v := .ref (A (b + 1))) 0 0 0 rfl rfl rfl inX6_total_X6 (by decide) (List.mem_of_getElem? (i := 1) rfl) rfl rfl dX6_total_127 ?_
                                  refine lv_iload_n hx hb dX6_total_130 rfl (lv_at hl 1 rfl) ?_
                                  refine lv_bipush (v := 13) hx hb dX6_total_131 (by decide) ?_
                                  refine lv_isub hx hb dX6_total_133 ?_
                                  obtain ⟨g35, h⟩ := q_g h
                                  refine r_iald C hW 1 0 rfl rfl g35 dX6_total_134 ?_
                                  cases h
                                  exact E _ _ _ _ _ hW rfl rfl dX6_total_135
                                · replace h := q_f e34 h
                                  by_cases e36 : p1 = 14
                                  · replace h := q_t e36 h
                                    have tb := tb_in e36 (lo := 0) (hi := 14) (offs := #[75, 81, 87, 92, 97, 97, 97, 97, 97, 108, 113, 113, 113, 125, 125]) (off := 125) (by decide)
                                    refine lv_tableIn (tgt := 126) hx hb dX6_total_1 tb.1 tb.2.1 tb.2.2 (by decide) ?_
                                    refine lv_aload_n hx hb dX6_total_126 rfl (lv_at hl 0 rfl) ?_
                                    refine r_get C hW (K := RX6) (T := TX6) (N := 12) (v := .ref (A (b + 1))) 0 0 0 rfl rfl rfl inX6_total_X6 (by decide) (List.mem_of_getElem? (i := 1) rfl) rfl rfl dX6_total_127 ?_
                                    refine lv_iload_n hx hb dX6_total_130 rfl (lv_at hl 1 rfl) ?_
                                    refine lv_bipush (v := 13) hx hb dX6_total_131 (by decide) ?_
                                    refine lv_isub hx hb dX6_total_133 ?_
                                    obtain ⟨g37, h⟩ := q_g h
                                    refine r_iald C hW 1 0 rfl rfl g37 dX6_total_134 ?_
                                    cases h
                                    exact E _ _ _ _ _ hW rfl rfl dX6_total_135
                                  · replace h := q_f e36 h
                                    cases h
def f_X6_whyNot (x : TX6s) (p1 : Int32) (p2 : Int32) (p3 : Int32) : Option (Int32) :=
(f_X6_isCell p1 p2).bind fun t1 =>
if t1 = 0 then (
some (-1))
else (
(f_X6_in p3 0 2).bind fun t4 =>
if t4 = 0 then (
some (-2))
else (
(f_X6_reason x p1 p2 p3).bind fun t7 =>
some t7))
theorem wo_X6_whyNot : wordsOk yX6_whyNot 3 := by decide +kernel
set_option maxHeartbeats 4000000 in
set_option maxRecDepth 100000 in
theorem c_X6_whyNot (l : Launch) (g : GG) (A : Nat → Nat) (b : Nat) (x : TX6s) (p1 : Int32) (p2 : Int32) (p3 : Int32) (r : Int32) (h : f_X6_whyNot x p1 p2 p3 = some r) : CI l yX6_whyNot wsX6_whyNot 4 96 g [.ref (A b), .int p1, .int p2, .int p3] (wX6 g A b x) r (wX6 g A b x) := by
  refine CI.mk (own := RX6) (by decide) rfl rfl (Nat.le_of_ble_eq_true rfl) ?_
  intro p e R s m args below meth c Z Q C E hR H hW ls hl
  have hx := C.1.1
  have hb := C.1.2.1
  have hown := C.1.2.2.2.1
  replace hW : WdG g Z s.heap H [] [[(A b, .inr (6, [.ref (A (b + 1)), .ref (A (b + 2)), .int x.2.2.1, .ref (A (b + 3)), .int x.2.2.2.2.1, .ref (A (b + 4)), .int x.2.2.2.2.2.2.1, .ref (A (b + 5)), .ref (A (b + 6)), .int x.2.2.2.2.2.2.2.2.2.1, .int x.2.2.2.2.2.2.2.2.2.2.1, .int x.2.2.2.2.2.2.2.2.2.2.2]))], [(A (b + 1), .inl (gI g, 268, .inl x.1))], [(A (b + 2), .inl (gI g, 1340, .inl x.2.1))], [(A (b + 3), .inl (gI g, 268, .inl x.2.2.2.1))], [(A (b + 4), .inl (gC g, 70, .inl x.2.2.2.2.2.1))], [(A (b + 5), .inl (gI g, 3, .inl x.2.2.2.2.2.2.2.1))], [(A (b + 6), .inl (gI g, 144, .inl x.2.2.2.2.2.2.2.2.1))]] := hW.re rfl
  replace hl : lv_has ls 4 [(0, .ref (A b)), (1, .int p1), (2, .int p2), (3, .int p3)] := hl
  unfold f_X6_whyNot at h
  refine lv_iload_n hx hb dX6_whyNot_0 rfl (lv_at hl 1 rfl) ?_
  refine lv_iload_n hx hb dX6_whyNot_1 rfl (lv_at hl 2 rfl) ?_
  obtain ⟨t1, h2, h⟩ := q_b h
  refine r_cSi C hW (nA := 2) (As := [.int p1, .int p2]) (rest := []) (c_X6_isCell l g p1 p2 _ h2) gX6_whyNot_X6_isCell rfl wo_X6_isCell (rmk hR rfl rfl) rfl rfl hl.1 (Nat.le_of_ble_eq_true rfl) rz dX6_whyNot_2 (n := 7) (is := []) (rs := [0, 1, 2, 3, 4, 5, 6]) (bs' := [[(A b, .inr (6, [.ref (A (b + 1)), .ref (A (b + 2)), .int x.2.2.1, .ref (A (b + 3)), .int x.2.2.2.2.1, .ref (A (b + 4)), .int x.2.2.2.2.2.2.1, .ref (A (b + 5)), .ref (A (b + 6)), .int x.2.2.2.2.2.2.2.2.2.1, .int x.2.2.2.2.2.2.2.2.2.2.1, .int x.2.2.2.2.2.2.2.2.2.2.2]))], [(A (b + 1), .inl (gI g, 268, .inl x.1))], [(A (b + 2), .inl (gI g, 1340, .inl x.2.1))], [(A (b + 3), .inl (gI g, 268, .inl x.2.2.2.1))], [(A (b + 4), .inl (gC g, 70, .inl x.2.2.2.2.2.1))], [(A (b + 5), .inl (gI g, 3, .inl x.2.2.2.2.2.2.2.1))], [(A (b + 6), .inl (gI g, 144, .inl x.2.2.2.2.2.2.2.2.1))]]) rfl rfl pm_38 rfl rfl rfl (fun H locs hW => ?_)
  refine lv_if_ne (tgt := 12) hx hb dX6_whyNot_5 (by decide) (fun e3 => ?_) (fun e3 => ?_)
  · replace h := q_f e3 h
    refine lv_iload_n hx hb dX6_whyNot_12 rfl (lv_at hl 3 rfl) ?_
    refine lv_iconst (v := 0) hx hb dX6_whyNot_13 (by decide) ?_
    refine lv_iconst (v := 2) hx hb dX6_whyNot_14 (by decide) ?_
    obtain ⟨t4, h5, h⟩ := q_b h
    refine r_cSi C hW (nA := 3) (As := [.int p3, .int 0, .int 2]) (rest := []) (c_X6_in l g p3 0 2 _ h5) gX6_whyNot_X6_in rfl wo_X6_in (rmk hR rfl rfl) rfl rfl hl.1 (Nat.le_of_ble_eq_true rfl) rz dX6_whyNot_15 (n := 7) (is := []) (rs := [0, 1, 2, 3, 4, 5, 6]) (bs' := [[(A b, .inr (6, [.ref (A (b + 1)), .ref (A (b + 2)), .int x.2.2.1, .ref (A (b + 3)), .int x.2.2.2.2.1, .ref (A (b + 4)), .int x.2.2.2.2.2.2.1, .ref (A (b + 5)), .ref (A (b + 6)), .int x.2.2.2.2.2.2.2.2.2.1, .int x.2.2.2.2.2.2.2.2.2.2.1, .int x.2.2.2.2.2.2.2.2.2.2.2]))], [(A (b + 1), .inl (gI g, 268, .inl x.1))], [(A (b + 2), .inl (gI g, 1340, .inl x.2.1))], [(A (b + 3), .inl (gI g, 268, .inl x.2.2.2.1))], [(A (b + 4), .inl (gC g, 70, .inl x.2.2.2.2.2.1))], [(A (b + 5), .inl (gI g, 3, .inl x.2.2.2.2.2.2.2.1))], [(A (b + 6), .inl (gI g, 144, .inl x.2.2.2.2.2.2.2.2.1))]]) rfl rfl pm_38 rfl rfl rfl (fun H locs hW => ?_)
    refine lv_if_eq (tgt := 31) hx hb dX6_whyNot_18 (by decide) (fun e6 => ?_) (fun e6 => ?_)
    · replace h := q_t e6 h
      refine lv_bipush (v := (-2)) hx hb dX6_whyNot_31 (by decide) ?_
      cases h
      exact E _ _ _ _ _ hW rfl rfl dX6_whyNot_33
    · replace h := q_f e6 h
      refine lv_aload_n hx hb dX6_whyNot_21 rfl (lv_at hl 0 rfl) ?_
      refine lv_iload_n hx hb dX6_whyNot_22 rfl (lv_at hl 1 rfl) ?_
      refine lv_iload_n hx hb dX6_whyNot_23 rfl (lv_at hl 2 rfl) ?_
      refine lv_iload_n hx hb dX6_whyNot_24 rfl (lv_at hl 3 rfl) ?_
      obtain ⟨t7, h8, h⟩ := q_b h
      refine r_cVi C hW (nA := 3) (As := [.int p1, .int p2, .int p3]) (rest := []) (c_X6_reason l g A b x p1 p2 p3 _ h8) gX6_whyNot_X6_reason rfl ⟨rfl, wo_X6_reason⟩ (rmk hR rfl rfl) rfl rfl rfl rfl hl.1 (Nat.le_of_ble_eq_true rfl) rz dX6_whyNot_25 (n := 7) (is := [0, 1, 2, 3, 4, 5, 6]) (rs := []) (bs' := [[(A b, .inr (6, [.ref (A (b + 1)), .ref (A (b + 2)), .int x.2.2.1, .ref (A (b + 3)), .int x.2.2.2.2.1, .ref (A (b + 4)), .int x.2.2.2.2.2.2.1, .ref (A (b + 5)), .ref (A (b + 6)), .int x.2.2.2.2.2.2.2.2.2.1, .int x.2.2.2.2.2.2.2.2.2.2.1, .int x.2.2.2.2.2.2.2.2.2.2.2]))], [(A (b + 1), .inl (gI g, 268, .inl x.1))], [(A (b + 2), .inl (gI g, 1340, .inl x.2.1))], [(A (b + 3), .inl (gI g, 268, .inl x.2.2.2.1))], [(A (b + 4), .inl (gC g, 70, .inl x.2.2.2.2.2.1))], [(A (b + 5), .inl (gI g, 3, .inl x.2.2.2.2.2.2.2.1))], [(A (b + 6), .inl (gI g, 144, .inl x.2.2.2.2.2.2.2.2.1))]]) rfl rfl pm_39 rfl rfl rfl (fun H locs hW => ?_)
      refine lv_goto (tgt := 33) hx hb dX6_whyNot_28 (by decide) ?_
      cases h
      exact E _ _ _ _ _ hW rfl rfl dX6_whyNot_33
  · replace h := q_t e3 h
    refine lv_iconst (v := (-1)) hx hb dX6_whyNot_8 (by decide) ?_
    refine lv_goto (tgt := 33) hx hb dX6_whyNot_9 (by decide) ?_
    cases h
    exact E _ _ _ _ _ hW rfl rfl dX6_whyNot_33
