def f_X6_carryOutOne (x : TX6s) (p1 : Int32) : Option (Int32 × TX6s) :=
if (p1 + 1) < 0 ∨ 144 ≤ (p1 + 1).toNatClampNeg then none else
if (p1 + 2) < 0 ∨ 144 ≤ (p1 + 2).toNatClampNeg then none else
if (p1 + 3) < 0 ∨ 144 ≤ (p1 + 3).toNatClampNeg then none else
if p1 < 0 ∨ 144 ≤ (p1).toNatClampNeg then none else
if (x.2.2.2.2.2.2.2.2.1 (p1).toNatClampNeg) = 97 then (
(f_X6_whyNotArrow x (x.2.2.2.2.2.2.2.2.1 (p1 + 1).toNatClampNeg) (x.2.2.2.2.2.2.2.2.1 (p1 + 2).toNatClampNeg) (x.2.2.2.2.2.2.2.2.1 (p1 + 3).toNatClampNeg)).bind fun t6 =>
if t6 = 0 then (
(f_X6_cellAt (x.2.2.2.2.2.2.2.2.1 (p1 + 1).toNatClampNeg) (x.2.2.2.2.2.2.2.2.1 (p1 + 2).toNatClampNeg)).bind fun t9 =>
(f_X6_signs x t9 ((x.2.2.2.2.2.2.2.2.1 (p1 + 3).toNatClampNeg) + 1)).bind fun t11 =>
some (t6, t11.2))
else (
some (t6, x)))
else if (x.2.2.2.2.2.2.2.2.1 (p1).toNatClampNeg) = 108 then (
(f_X6_lineAt (x.2.2.2.2.2.2.2.2.1 (p1 + 1).toNatClampNeg) (x.2.2.2.2.2.2.2.2.1 (p1 + 2).toNatClampNeg)).bind fun t14 =>
(f_X6_signs x t14 (x.2.2.2.2.2.2.2.2.1 (p1 + 3).toNatClampNeg)).bind fun t16 =>
some (0, t16.2))
else if (x.2.2.2.2.2.2.2.2.1 (p1).toNatClampNeg) = 110 then (
(f_X6_whyNotNight x (x.2.2.2.2.2.2.2.2.1 (p1 + 1).toNatClampNeg) (x.2.2.2.2.2.2.2.2.1 (p1 + 2).toNatClampNeg)).bind fun t19 =>
if t19 = 0 then (
(f_X6_works x (x.2.2.2.2.2.2.2.2.1 (p1 + 1).toNatClampNeg) (x.2.2.2.2.2.2.2.2.1 (p1 + 2).toNatClampNeg)).bind fun t22 =>
some (t19, t22.2))
else (
some (t19, x)))
else if (x.2.2.2.2.2.2.2.2.1 (p1).toNatClampNeg) = 119 then (
(f_X6_cellAt (x.2.2.2.2.2.2.2.2.1 (p1 + 1).toNatClampNeg) (x.2.2.2.2.2.2.2.2.1 (p1 + 2).toNatClampNeg)).bind fun t25 =>
(f_X6_signs x (t25 + 2) ((x.2.2.2.2.2.2.2.2.1 (p1 + 3).toNatClampNeg) + 1)).bind fun t27 =>
some (0, t27.2))
else (
(f_X6_day x).bind fun t29 =>
some (0, t29.2))
theorem wo_X6_carryOutOne : wordsOk yX6_carryOutOne 1 := by decide +kernel
theorem inX6_carryOutOne_X6 : ∀ w ∈ wsX60, w ∈ wsX6_carryOutOne := fun _ h => List.mem_cons_of_mem _ (List.mem_append_right _ h)
set_option maxHeartbeats 4000000 in
set_option maxRecDepth 100000 in
theorem c_X6_carryOutOne (l : Launch) (g : GG) (A : Nat → Nat) (b : Nat) (x : TX6s) (p1 : Int32) (r : Int32) (x' : TX6s) (h : f_X6_carryOutOne x p1 = some (r, x')) : CI l yX6_carryOutOne wsX6_carryOutOne 5 119 g [.ref (A b), .int p1] (wX6 g A b x) r (wX6 g A b x') := by
  refine CI.mk (own := RX6) (by decide) rfl rfl (Nat.le_of_ble_eq_true rfl) ?_
  intro p e R s m args below meth c Z Q C E hR H hW ls hl
  have hx := C.1.1
  have hb := C.1.2.1
  have hown := C.1.2.2.2.1
  replace hW : WdG g Z s.heap H [] [[(A b, .inr (6, [.ref (A (b + 1)), .ref (A (b + 2)), .int x.2.2.1, .ref (A (b + 3)), .int x.2.2.2.2.1, .ref (A (b + 4)), .int x.2.2.2.2.2.2.1, .ref (A (b + 5)), .ref (A (b + 6)), .int x.2.2.2.2.2.2.2.2.2.1, .int x.2.2.2.2.2.2.2.2.2.2.1, .int x.2.2.2.2.2.2.2.2.2.2.2]))], [(A (b + 1), .inl (gI g, 268, .inl x.1))], [(A (b + 2), .inl (gI g, 1340, .inl x.2.1))], [(A (b + 3), .inl (gI g, 268, .inl x.2.2.2.1))], [(A (b + 4), .inl (gC g, 70, .inl x.2.2.2.2.2.1))], [(A (b + 5), .inl (gI g, 3, .inl x.2.2.2.2.2.2.2.1))], [(A (b + 6), .inl (gI g, 144, .inl x.2.2.2.2.2.2.2.2.1))]] := hW.re rfl
  replace hl : lv_has ls 6 [(0, .ref (A b)), (1, .int p1)] := hl
  unfold f_X6_carryOutOne at h
  refine lv_aload_n hx hb dX6_carryOutOne_0 rfl (lv_at hl 0 rfl) ?_
  refine r_get C hW (K := RX6) (T := TX6) (N := 12) (v := .ref (A (b + 6))) 0 0 8 rfl rfl rfl inX6_carryOutOne_X6 (by decide) (List.mem_of_getElem? (i := 1) rfl) rfl rfl dX6_carryOutOne_1 ?_
  refine lv_iload_n hx hb dX6_carryOutOne_4 rfl (lv_at hl 1 rfl) ?_
  refine lv_iconst (v := 1) hx hb dX6_carryOutOne_5 (by decide) ?_
  refine lv_iadd hx hb dX6_carryOutOne_6 ?_
  obtain ⟨g1, h⟩ := q_g h
  refine r_iald C hW 6 0 rfl rfl g1 dX6_carryOutOne_7 ?_
  refine lv_istore_n (lv' := [(2, .int (x.2.2.2.2.2.2.2.2.1 (p1 + 1).toNatClampNeg)), (0, .ref (A b)), (1, .int p1)]) hx hb dX6_carryOutOne_8 rfl hl (by decide) rfl (fun ls hl => ?_)
  refine lv_aload_n hx hb dX6_carryOutOne_9 rfl (lv_at hl 1 rfl) ?_
  refine r_get C hW (K := RX6) (T := TX6) (N := 12) (v := .ref (A (b + 6))) 0 0 8 rfl rfl rfl inX6_carryOutOne_X6 (by decide) (List.mem_of_getElem? (i := 1) rfl) rfl rfl dX6_carryOutOne_10 ?_
  refine lv_iload_n hx hb dX6_carryOutOne_13 rfl (lv_at hl 2 rfl) ?_
  refine lv_iconst (v := 2) hx hb dX6_carryOutOne_14 (by decide) ?_
  refine lv_iadd hx hb dX6_carryOutOne_15 ?_
  obtain ⟨g2, h⟩ := q_g h
  refine r_iald C hW 6 0 rfl rfl g2 dX6_carryOutOne_16 ?_
  refine lv_istore_n (lv' := [(3, .int (x.2.2.2.2.2.2.2.2.1 (p1 + 2).toNatClampNeg)), (2, .int (x.2.2.2.2.2.2.2.2.1 (p1 + 1).toNatClampNeg)), (0, .ref (A b)), (1, .int p1)]) hx hb dX6_carryOutOne_17 rfl hl (by decide) rfl (fun ls hl => ?_)
  refine lv_aload_n hx hb dX6_carryOutOne_18 rfl (lv_at hl 2 rfl) ?_
  refine r_get C hW (K := RX6) (T := TX6) (N := 12) (v := .ref (A (b + 6))) 0 0 8 rfl rfl rfl inX6_carryOutOne_X6 (by decide) (List.mem_of_getElem? (i := 1) rfl) rfl rfl dX6_carryOutOne_19 ?_
  refine lv_iload_n hx hb dX6_carryOutOne_22 rfl (lv_at hl 3 rfl) ?_
  refine lv_iconst (v := 3) hx hb dX6_carryOutOne_23 (by decide) ?_
  refine lv_iadd hx hb dX6_carryOutOne_24 ?_
  obtain ⟨g3, h⟩ := q_g h
  refine r_iald C hW 6 0 rfl rfl g3 dX6_carryOutOne_25 ?_
  refine lv_istore (lv' := [(4, .int (x.2.2.2.2.2.2.2.2.1 (p1 + 3).toNatClampNeg)), (3, .int (x.2.2.2.2.2.2.2.2.1 (p1 + 2).toNatClampNeg)), (2, .int (x.2.2.2.2.2.2.2.2.1 (p1 + 1).toNatClampNeg)), (0, .ref (A b)), (1, .int p1)]) hx hb dX6_carryOutOne_26 hl (by decide) rfl (fun ls hl => ?_)
  refine lv_iconst (v := 0) hx hb dX6_carryOutOne_28 (by decide) ?_
  refine lv_istore (lv' := [(5, .int 0), (4, .int (x.2.2.2.2.2.2.2.2.1 (p1 + 3).toNatClampNeg)), (3, .int (x.2.2.2.2.2.2.2.2.1 (p1 + 2).toNatClampNeg)), (2, .int (x.2.2.2.2.2.2.2.2.1 (p1 + 1).toNatClampNeg)), (0, .ref (A b)), (1, .int p1)]) hx hb dX6_carryOutOne_29 hl (by decide) rfl (fun ls hl => ?_)
  refine lv_aload_n hx hb dX6_carryOutOne_31 rfl (lv_at hl 4 rfl) ?_
  refine r_get C hW (K := RX6) (T := TX6) (N := 12) (v := .ref (A (b + 6))) 0 0 8 rfl rfl rfl inX6_carryOutOne_X6 (by decide) (List.mem_of_getElem? (i := 1) rfl) rfl rfl dX6_carryOutOne_32 ?_
  refine lv_iload_n hx hb dX6_carryOutOne_35 rfl (lv_at hl 5 rfl) ?_
  obtain ⟨g4, h⟩ := q_g h
  refine r_iald C hW 6 0 rfl rfl g4 dX6_carryOutOne_36 ?_
  by_cases e5 : (x.2.2.2.2.2.2.2.2.1 (p1).toNatClampNeg) = 97
  · replace h := q_t e5 h
    refine lv_lookup (off := 43) (tgt := 80) hx hb dX6_carryOutOne_37 (by decide) (sw_eq e5 rfl) (by decide) ?_
    refine lv_aload_n hx hb dX6_carryOutOne_80 rfl (lv_at hl 4 rfl) ?_
    refine lv_iload_n hx hb dX6_carryOutOne_81 rfl (lv_at hl 3 rfl) ?_
    refine lv_iload_n hx hb dX6_carryOutOne_82 rfl (lv_at hl 2 rfl) ?_
    refine lv_iload hx hb dX6_carryOutOne_83 (lv_at hl 1 rfl) ?_
    obtain ⟨t6, h7, h⟩ := q_b h
    refine r_cVi C hW (nA := 3) (As := [.int (x.2.2.2.2.2.2.2.2.1 (p1 + 1).toNatClampNeg), .int (x.2.2.2.2.2.2.2.2.1 (p1 + 2).toNatClampNeg), .int (x.2.2.2.2.2.2.2.2.1 (p1 + 3).toNatClampNeg)]) (rest := []) (c_X6_whyNotArrow l g A b x (x.2.2.2.2.2.2.2.2.1 (p1 + 1).toNatClampNeg) (x.2.2.2.2.2.2.2.2.1 (p1 + 2).toNatClampNeg) (x.2.2.2.2.2.2.2.2.1 (p1 + 3).toNatClampNeg) _ h7) gX6_carryOutOne_X6_whyNotArrow rfl ⟨rfl, wo_X6_whyNotArrow⟩ (rmk hR rfl rfl) rfl rfl rfl rfl hl.1 (Nat.le_of_ble_eq_true rfl) rz dX6_carryOutOne_85 (n := 7) (is := [0, 1, 2, 3, 4, 5, 6]) (rs := []) (bs' := [[(A b, .inr (6, [.ref (A (b + 1)), .ref (A (b + 2)), .int x.2.2.1, .ref (A (b + 3)), .int x.2.2.2.2.1, .ref (A (b + 4)), .int x.2.2.2.2.2.2.1, .ref (A (b + 5)), .ref (A (b + 6)), .int x.2.2.2.2.2.2.2.2.2.1, .int x.2.2.2.2.2.2.2.2.2.2.1, .int x.2.2.2.2.2.2.2.2.2.2.2]))], [(A (b + 1), .inl (gI g, 268, .inl x.1))], [(A (b + 2), .inl (gI g, 1340, .inl x.2.1))], [(A (b + 3), .inl (gI g, 268, .inl x.2.2.2.1))], [(A (b + 4), .inl (gC g, 70, .inl x.2.2.2.2.2.1))], [(A (b + 5), .inl (gI g, 3, .inl x.2.2.2.2.2.2.2.1))], [(A (b + 6), .inl (gI g, 144, .inl x.2.2.2.2.2.2.2.2.1))]]) rfl rfl pm_39 rfl rfl rfl (fun H locs hW => ?_)
    refine lv_istore (lv' := [(5, .int t6), (4, .int (x.2.2.2.2.2.2.2.2.1 (p1 + 3).toNatClampNeg)), (3, .int (x.2.2.2.2.2.2.2.2.1 (p1 + 2).toNatClampNeg)), (2, .int (x.2.2.2.2.2.2.2.2.1 (p1 + 1).toNatClampNeg)), (0, .ref (A b)), (1, .int p1)]) hx hb dX6_carryOutOne_88 hl (by decide) rfl (fun ls hl => ?_)
    refine lv_iload hx hb dX6_carryOutOne_90 (lv_at hl 0 rfl) ?_
    refine lv_if_ne (tgt := 174) hx hb dX6_carryOutOne_92 (by decide) (fun e8 => ?_) (fun e8 => ?_)
    · replace h := q_f e8 h
      refine lv_iload hx hb dX6_carryOutOne_174 (lv_at hl 0 rfl) ?_
      cases h
      exact E _ _ _ _ _ hW rfl rfl dX6_carryOutOne_176
    · replace h := q_t e8 h
      refine lv_aload_n hx hb dX6_carryOutOne_95 rfl (lv_at hl 4 rfl) ?_
      refine lv_iload_n hx hb dX6_carryOutOne_96 rfl (lv_at hl 3 rfl) ?_
      refine lv_iload_n hx hb dX6_carryOutOne_97 rfl (lv_at hl 2 rfl) ?_
      obtain ⟨t9, h10, h⟩ := q_b h
      refine r_cSi C hW (nA := 2) (As := [.int (x.2.2.2.2.2.2.2.2.1 (p1 + 1).toNatClampNeg), .int (x.2.2.2.2.2.2.2.2.1 (p1 + 2).toNatClampNeg)]) (rest := [.ref (A b)]) (c_X6_cellAt l g (x.2.2.2.2.2.2.2.2.1 (p1 + 1).toNatClampNeg) (x.2.2.2.2.2.2.2.2.1 (p1 + 2).toNatClampNeg) _ h10) gX6_carryOutOne_X6_cellAt rfl wo_X6_cellAt (rmk hR rfl rfl) rfl rfl hl.1 (Nat.le_of_ble_eq_true rfl) rz dX6_carryOutOne_98 (n := 7) (is := []) (rs := [0, 1, 2, 3, 4, 5, 6]) (bs' := [[(A b, .inr (6, [.ref (A (b + 1)), .ref (A (b + 2)), .int x.2.2.1, .ref (A (b + 3)), .int x.2.2.2.2.1, .ref (A (b + 4)), .int x.2.2.2.2.2.2.1, .ref (A (b + 5)), .ref (A (b + 6)), .int x.2.2.2.2.2.2.2.2.2.1, .int x.2.2.2.2.2.2.2.2.2.2.1, .int x.2.2.2.2.2.2.2.2.2.2.2]))], [(A (b + 1), .inl (gI g, 268, .inl x.1))], [(A (b + 2), .inl (gI g, 1340, .inl x.2.1))], [(A (b + 3), .inl (gI g, 268, .inl x.2.2.2.1))], [(A (b + 4), .inl (gC g, 70, .inl x.2.2.2.2.2.1))], [(A (b + 5), .inl (gI g, 3, .inl x.2.2.2.2.2.2.2.1))], [(A (b + 6), .inl (gI g, 144, .inl x.2.2.2.2.2.2.2.2.1))]]) rfl rfl pm_38 rfl rfl rfl (fun H locs hW => ?_)
      refine lv_iload hx hb dX6_carryOutOne_101 (lv_at hl 1 rfl) ?_
      refine lv_iconst (v := 1) hx hb dX6_carryOutOne_103 (by decide) ?_
      refine lv_iadd hx hb dX6_carryOutOne_104 ?_
      obtain ⟨t11, h12, h⟩ := q_b h
      refine r_cVi C hW (nA := 2) (As := [.int t9, .int ((x.2.2.2.2.2.2.2.2.1 (p1 + 3).toNatClampNeg) + 1)]) (rest := []) (c_X6_signs l g A b x t9 ((x.2.2.2.2.2.2.2.2.1 (p1 + 3).toNatClampNeg) + 1) _ _ h12) gX6_carryOutOne_X6_signs rfl ⟨rfl, wo_X6_signs⟩ (rmk hR rfl rfl) rfl rfl rfl rfl hl.1 (Nat.le_of_ble_eq_true rfl) rz dX6_carryOutOne_105 (n := 7) (is := [0, 1, 2, 3, 4, 5, 6]) (rs := []) (bs' := [[(A b, .inr (6, [.ref (A (b + 1)), .ref (A (b + 2)), .int t11.2.2.2.1, .ref (A (b + 3)), .int t11.2.2.2.2.2.1, .ref (A (b + 4)), .int t11.2.2.2.2.2.2.2.1, .ref (A (b + 5)), .ref (A (b + 6)), .int t11.2.2.2.2.2.2.2.2.2.2.1, .int t11.2.2.2.2.2.2.2.2.2.2.2.1, .int t11.2.2.2.2.2.2.2.2.2.2.2.2]))], [(A (b + 1), .inl (gI g, 268, .inl t11.2.1))], [(A (b + 2), .inl (gI g, 1340, .inl t11.2.2.1))], [(A (b + 3), .inl (gI g, 268, .inl t11.2.2.2.2.1))], [(A (b + 4), .inl (gC g, 70, .inl t11.2.2.2.2.2.2.1))], [(A (b + 5), .inl (gI g, 3, .inl t11.2.2.2.2.2.2.2.2.1))], [(A (b + 6), .inl (gI g, 144, .inl t11.2.2.2.2.2.2.2.2.2.1))]]) rfl rfl pm_39 rfl rfl rfl (fun H locs hW => ?_)
      refine lv_pop hx hb dX6_carryOutOne_108 rfl ?_
      refine lv_goto (tgt := 174) hx hb dX6_carryOutOne_109 (by decide) ?_
      refine lv_iload hx hb dX6_carryOutOne_174 (lv_at hl 0 rfl) ?_
      cases h
      exact E _ _ _ _ _ hW rfl rfl dX6_carryOutOne_176
  · replace h := q_f e5 h
    by_cases e13 : (x.2.2.2.2.2.2.2.2.1 (p1).toNatClampNeg) = 108
    · replace h := q_t e13 h
      refine lv_lookup (off := 94) (tgt := 131) hx hb dX6_carryOutOne_37 (by decide) (sw_ne e5 rfl (sw_eq e13 rfl)) (by decide) ?_
      refine lv_aload_n hx hb dX6_carryOutOne_131 rfl (lv_at hl 4 rfl) ?_
      refine lv_iload_n hx hb dX6_carryOutOne_132 rfl (lv_at hl 3 rfl) ?_
      refine lv_iload_n hx hb dX6_carryOutOne_133 rfl (lv_at hl 2 rfl) ?_
      obtain ⟨t14, h15, h⟩ := q_b h
      refine r_cSi C hW (nA := 2) (As := [.int (x.2.2.2.2.2.2.2.2.1 (p1 + 1).toNatClampNeg), .int (x.2.2.2.2.2.2.2.2.1 (p1 + 2).toNatClampNeg)]) (rest := [.ref (A b)]) (c_X6_lineAt l g (x.2.2.2.2.2.2.2.2.1 (p1 + 1).toNatClampNeg) (x.2.2.2.2.2.2.2.2.1 (p1 + 2).toNatClampNeg) _ h15) gX6_carryOutOne_X6_lineAt rfl wo_X6_lineAt (rmk hR rfl rfl) rfl rfl hl.1 (Nat.le_of_ble_eq_true rfl) rz dX6_carryOutOne_134 (n := 7) (is := []) (rs := [0, 1, 2, 3, 4, 5, 6]) (bs' := [[(A b, .inr (6, [.ref (A (b + 1)), .ref (A (b + 2)), .int x.2.2.1, .ref (A (b + 3)), .int x.2.2.2.2.1, .ref (A (b + 4)), .int x.2.2.2.2.2.2.1, .ref (A (b + 5)), .ref (A (b + 6)), .int x.2.2.2.2.2.2.2.2.2.1, .int x.2.2.2.2.2.2.2.2.2.2.1, .int x.2.2.2.2.2.2.2.2.2.2.2]))], [(A (b + 1), .inl (gI g, 268, .inl x.1))], [(A (b + 2), .inl (gI g, 1340, .inl x.2.1))], [(A (b + 3), .inl (gI g, 268, .inl x.2.2.2.1))], [(A (b + 4), .inl (gC g, 70, .inl x.2.2.2.2.2.1))], [(A (b + 5), .inl (gI g, 3, .inl x.2.2.2.2.2.2.2.1))], [(A (b + 6), .inl (gI g, 144, .inl x.2.2.2.2.2.2.2.2.1))]]) rfl rfl pm_38 rfl rfl rfl (fun H locs hW => ?_)
      refine lv_iload hx hb dX6_carryOutOne_137 (lv_at hl 1 rfl) ?_
      obtain ⟨t16, h17, h⟩ := q_b h
      refine r_cVi C hW (nA := 2) (As := [.int t14, .int (x.2.2.2.2.2.2.2.2.1 (p1 + 3).toNatClampNeg)]) (rest := []) (c_X6_signs l g A b x t14 (x.2.2.2.2.2.2.2.2.1 (p1 + 3).toNatClampNeg) _ _ h17) gX6_carryOutOne_X6_signs rfl ⟨rfl, wo_X6_signs⟩ (rmk hR rfl rfl) rfl rfl rfl rfl hl.1 (Nat.le_of_ble_eq_true rfl) rz dX6_carryOutOne_139 (n := 7) (is := [0, 1, 2, 3, 4, 5, 6]) (rs := []) (bs' := [[(A b, .inr (6, [.ref (A (b + 1)), .ref (A (b + 2)), .int t16.2.2.2.1, .ref (A (b + 3)), .int t16.2.2.2.2.2.1, .ref (A (b + 4)), .int t16.2.2.2.2.2.2.2.1, .ref (A (b + 5)), .ref (A (b + 6)), .int t16.2.2.2.2.2.2.2.2.2.2.1, .int t16.2.2.2.2.2.2.2.2.2.2.2.1, .int t16.2.2.2.2.2.2.2.2.2.2.2.2]))], [(A (b + 1), .inl (gI g, 268, .inl t16.2.1))], [(A (b + 2), .inl (gI g, 1340, .inl t16.2.2.1))], [(A (b + 3), .inl (gI g, 268, .inl t16.2.2.2.2.1))], [(A (b + 4), .inl (gC g, 70, .inl t16.2.2.2.2.2.2.1))], [(A (b + 5), .inl (gI g, 3, .inl t16.2.2.2.2.2.2.2.2.1))], [(A (b + 6), .inl (gI g, 144, .inl t16.2.2.2.2.2.2.2.2.2.1))]]) rfl rfl pm_39 rfl rfl rfl (fun H locs hW => ?_)
      refine lv_pop hx hb dX6_carryOutOne_142 rfl ?_
      refine lv_goto (tgt := 174) hx hb dX6_carryOutOne_143 (by decide) ?_
      refine lv_iload hx hb dX6_carryOutOne_174 (lv_at hl 0 rfl) ?_
      cases h
      exact E _ _ _ _ _ hW rfl rfl dX6_carryOutOne_176
    · replace h := q_f e13 h
      by_cases e18 : (x.2.2.2.2.2.2.2.2.1 (p1).toNatClampNeg) = 110
      · replace h := q_t e18 h
        refine lv_lookup (off := 109) (tgt := 146) hx hb dX6_carryOutOne_37 (by decide) (sw_ne e5 rfl (sw_ne e13 rfl (sw_eq e18 rfl))) (by decide) ?_
        refine lv_aload_n hx hb dX6_carryOutOne_146 rfl (lv_at hl 4 rfl) ?_
        refine lv_iload_n hx hb dX6_carryOutOne_147 rfl (lv_at hl 3 rfl) ?_
        refine lv_iload_n hx hb dX6_carryOutOne_148 rfl (lv_at hl 2 rfl) ?_
        obtain ⟨t19, h20, h⟩ := q_b h
        refine r_cVi C hW (nA := 2) (As := [.int (x.2.2.2.2.2.2.2.2.1 (p1 + 1).toNatClampNeg), .int (x.2.2.2.2.2.2.2.2.1 (p1 + 2).toNatClampNeg)]) (rest := []) (c_X6_whyNotNight l g A b x (x.2.2.2.2.2.2.2.2.1 (p1 + 1).toNatClampNeg) (x.2.2.2.2.2.2.2.2.1 (p1 + 2).toNatClampNeg) _ h20) gX6_carryOutOne_X6_whyNotNight rfl ⟨rfl, wo_X6_whyNotNight⟩ (rmk hR rfl rfl) rfl rfl rfl rfl hl.1 (Nat.le_of_ble_eq_true rfl) rz dX6_carryOutOne_149 (n := 7) (is := [0, 1, 2, 3, 4, 5, 6]) (rs := []) (bs' := [[(A b, .inr (6, [.ref (A (b + 1)), .ref (A (b + 2)), .int x.2.2.1, .ref (A (b + 3)), .int x.2.2.2.2.1, .ref (A (b + 4)), .int x.2.2.2.2.2.2.1, .ref (A (b + 5)), .ref (A (b + 6)), .int x.2.2.2.2.2.2.2.2.2.1, .int x.2.2.2.2.2.2.2.2.2.2.1, .int x.2.2.2.2.2.2.2.2.2.2.2]))], [(A (b + 1), .inl (gI g, 268, .inl x.1))], [(A (b + 2), .inl (gI g, 1340, .inl x.2.1))], [(A (b + 3), .inl (gI g, 268, .inl x.2.2.2.1))], [(A (b + 4), .inl (gC g, 70, .inl x.2.2.2.2.2.1))], [(A (b + 5), .inl (gI g, 3, .inl x.2.2.2.2.2.2.2.1))], [(A (b + 6), .inl (gI g, 144, .inl x.2.2.2.2.2.2.2.2.1))]]) rfl rfl pm_39 rfl rfl rfl (fun H locs hW => ?_)
        refine lv_istore (lv' := [(5, .int t19), (4, .int (x.2.2.2.2.2.2.2.2.1 (p1 + 3).toNatClampNeg)), (3, .int (x.2.2.2.2.2.2.2.2.1 (p1 + 2).toNatClampNeg)), (2, .int (x.2.2.2.2.2.2.2.2.1 (p1 + 1).toNatClampNeg)), (0, .ref (A b)), (1, .int p1)]) hx hb dX6_carryOutOne_152 hl (by decide) rfl (fun ls hl => ?_)
        refine lv_iload hx hb dX6_carryOutOne_154 (lv_at hl 0 rfl) ?_
        refine lv_if_ne (tgt := 174) hx hb dX6_carryOutOne_156 (by decide) (fun e21 => ?_) (fun e21 => ?_)
        · replace h := q_f e21 h
          refine lv_iload hx hb dX6_carryOutOne_174 (lv_at hl 0 rfl) ?_
          cases h
          exact E _ _ _ _ _ hW rfl rfl dX6_carryOutOne_176
        · replace h := q_t e21 h
          refine lv_aload_n hx hb dX6_carryOutOne_159 rfl (lv_at hl 4 rfl) ?_
          refine lv_iload_n hx hb dX6_carryOutOne_160 rfl (lv_at hl 3 rfl) ?_
          refine lv_iload_n hx hb dX6_carryOutOne_161 rfl (lv_at hl 2 rfl) ?_
          obtain ⟨t22, h23, h⟩ := q_b h
          refine r_cVi C hW (nA := 2) (As := [.int (x.2.2.2.2.2.2.2.2.1 (p1 + 1).toNatClampNeg), .int (x.2.2.2.2.2.2.2.2.1 (p1 + 2).toNatClampNeg)]) (rest := []) (c_X6_works l g A b x (x.2.2.2.2.2.2.2.2.1 (p1 + 1).toNatClampNeg) (x.2.2.2.2.2.2.2.2.1 (p1 + 2).toNatClampNeg) _ _ h23) gX6_carryOutOne_X6_works rfl ⟨rfl, wo_X6_works⟩ (rmk hR rfl rfl) rfl rfl rfl rfl hl.1 (Nat.le_of_ble_eq_true rfl) rz dX6_carryOutOne_162 (n := 7) (is := [0, 1, 2, 3, 4, 5, 6]) (rs := []) (bs' := [[(A b, .inr (6, [.ref (A (b + 1)), .ref (A (b + 2)), .int t22.2.2.2.1, .ref (A (b + 3)), .int t22.2.2.2.2.2.1, .ref (A (b + 4)), .int t22.2.2.2.2.2.2.2.1, .ref (A (b + 5)), .ref (A (b + 6)), .int t22.2.2.2.2.2.2.2.2.2.2.1, .int t22.2.2.2.2.2.2.2.2.2.2.2.1, .int t22.2.2.2.2.2.2.2.2.2.2.2.2]))], [(A (b + 1), .inl (gI g, 268, .inl t22.2.1))], [(A (b + 2), .inl (gI g, 1340, .inl t22.2.2.1))], [(A (b + 3), .inl (gI g, 268, .inl t22.2.2.2.2.1))], [(A (b + 4), .inl (gC g, 70, .inl t22.2.2.2.2.2.2.1))], [(A (b + 5), .inl (gI g, 3, .inl t22.2.2.2.2.2.2.2.2.1))], [(A (b + 6), .inl (gI g, 144, .inl t22.2.2.2.2.2.2.2.2.2.1))]]) rfl rfl pm_39 rfl rfl rfl (fun H locs hW => ?_)
          refine lv_pop hx hb dX6_carryOutOne_165 rfl ?_
          refine lv_goto (tgt := 174) hx hb dX6_carryOutOne_166 (by decide) ?_
          refine lv_iload hx hb dX6_carryOutOne_174 (lv_at hl 0 rfl) ?_
          cases h
          exact E _ _ _ _ _ hW rfl rfl dX6_carryOutOne_176
      · replace h := q_f e18 h
        by_cases e24 : (x.2.2.2.2.2.2.2.2.1 (p1).toNatClampNeg) = 119
        · replace h := q_t e24 h
          refine lv_lookup (off := 75) (tgt := 112) hx hb dX6_carryOutOne_37 (by decide) (sw_ne e5 rfl (sw_ne e13 rfl (sw_ne e18 rfl (sw_eq e24 rfl)))) (by decide) ?_
          refine lv_aload_n hx hb dX6_carryOutOne_112 rfl (lv_at hl 4 rfl) ?_
          refine lv_iload_n hx hb dX6_carryOutOne_113 rfl (lv_at hl 3 rfl) ?_
          refine lv_iload_n hx hb dX6_carryOutOne_114 rfl (lv_at hl 2 rfl) ?_
          obtain ⟨t25, h26, h⟩ := q_b h
          refine r_cSi C hW (nA := 2) (As := [.int (x.2.2.2.2.2.2.2.2.1 (p1 + 1).toNatClampNeg), .int (x.2.2.2.2.2.2.2.2.1 (p1 + 2).toNatClampNeg)]) (rest := [.ref (A b)]) (c_X6_cellAt l g (x.2.2.2.2.2.2.2.2.1 (p1 + 1).toNatClampNeg) (x.2.2.2.2.2.2.2.2.1 (p1 + 2).toNatClampNeg) _ h26) gX6_carryOutOne_X6_cellAt rfl wo_X6_cellAt (rmk hR rfl rfl) rfl rfl hl.1 (Nat.le_of_ble_eq_true rfl) rz dX6_carryOutOne_115 (n := 7) (is := []) (rs := [0, 1, 2, 3, 4, 5, 6]) (bs' := [[(A b, .inr (6, [.ref (A (b + 1)), .ref (A (b + 2)), .int x.2.2.1, .ref (A (b + 3)), .int x.2.2.2.2.1, .ref (A (b + 4)), .int x.2.2.2.2.2.2.1, .ref (A (b + 5)), .ref (A (b + 6)), .int x.2.2.2.2.2.2.2.2.2.1, .int x.2.2.2.2.2.2.2.2.2.2.1, .int x.2.2.2.2.2.2.2.2.2.2.2]))], [(A (b + 1), .inl (gI g, 268, .inl x.1))], [(A (b + 2), .inl (gI g, 1340, .inl x.2.1))], [(A (b + 3), .inl (gI g, 268, .inl x.2.2.2.1))], [(A (b + 4), .inl (gC g, 70, .inl x.2.2.2.2.2.1))], [(A (b + 5), .inl (gI g, 3, .inl x.2.2.2.2.2.2.2.1))], [(A (b + 6), .inl (gI g, 144, .inl x.2.2.2.2.2.2.2.2.1))]]) rfl rfl pm_38 rfl rfl rfl (fun H locs hW => ?_)
          refine lv_iconst (v := 2) hx hb dX6_carryOutOne_118 (by decide) ?_
          refine lv_iadd hx hb dX6_carryOutOne_119 ?_
          refine lv_iload hx hb dX6_carryOutOne_120 (lv_at hl 1 rfl) ?_
          refine lv_iconst (v := 1) hx hb dX6_carryOutOne_122 (by decide) ?_
          refine lv_iadd hx hb dX6_carryOutOne_123 ?_
          obtain ⟨t27, h28, h⟩ := q_b h
          refine r_cVi C hW (nA := 2) (As := [.int (t25 + 2), .int ((x.2.2.2.2.2.2.2.2.1 (p1 + 3).toNatClampNeg) + 1)]) (rest := []) (c_X6_signs l g A b x (t25 + 2) ((x.2.2.2.2.2.2.2.2.1 (p1 + 3).toNatClampNeg) + 1) _ _ h28) gX6_carryOutOne_X6_signs rfl ⟨rfl, wo_X6_signs⟩ (rmk hR rfl rfl) rfl rfl rfl rfl hl.1 (Nat.le_of_ble_eq_true rfl) rz dX6_carryOutOne_124 (n := 7) (is := [0, 1, 2, 3, 4, 5, 6]) (rs := []) (bs' := [[(A b, .inr (6, [.ref (A (b + 1)), .ref (A (b + 2)), .int t27.2.2.2.1, .ref (A (b + 3)), .int t27.2.2.2.2.2.1, .ref (A (b + 4)), .int t27.2.2.2.2.2.2.2.1, .ref (A (b + 5)), .ref (A (b + 6)), .int t27.2.2.2.2.2.2.2.2.2.2.1, .int t27.2.2.2.2.2.2.2.2.2.2.2.1, .int t27.2.2.2.2.2.2.2.2.2.2.2.2]))], [(A (b + 1), .inl (gI g, 268, .inl t27.2.1))], [(A (b + 2), .inl (gI g, 1340, .inl t27.2.2.1))], [(A (b + 3), .inl (gI g, 268, .inl t27.2.2.2.2.1))], [(A (b + 4), .inl (gC g, 70, .inl t27.2.2.2.2.2.2.1))], [(A (b + 5), .inl (gI g, 3, .inl t27.2.2.2.2.2.2.2.2.1))], [(A (b + 6), .inl (gI g, 144, .inl t27.2.2.2.2.2.2.2.2.2.1))]]) rfl rfl pm_39 rfl rfl rfl (fun H locs hW => ?_)
          refine lv_pop hx hb dX6_carryOutOne_127 rfl ?_
          refine lv_goto (tgt := 174) hx hb dX6_carryOutOne_128 (by decide) ?_
          refine lv_iload hx hb dX6_carryOutOne_174 (lv_at hl 0 rfl) ?_
          cases h
          exact E _ _ _ _ _ hW rfl rfl dX6_carryOutOne_176
        · replace h := q_f e24 h
          refine lv_lookup (off := 132) (tgt := 169) hx hb dX6_carryOutOne_37 (by decide) (sw_ne e5 rfl (sw_ne e13 rfl (sw_ne e18 rfl (sw_ne e24 rfl (rfl))))) (by decide) ?_
          refine lv_aload_n hx hb dX6_carryOutOne_169 rfl (lv_at hl 4 rfl) ?_
          obtain ⟨t29, h30, h⟩ := q_b h
          refine r_cVi C hW (nA := 0) (As := []) (rest := []) (c_X6_day l g A b x _ _ h30) gX6_carryOutOne_X6_day rfl ⟨rfl, wo_X6_day⟩ (rmk hR rfl rfl) rfl rfl rfl rfl hl.1 (Nat.le_of_ble_eq_true rfl) rz dX6_carryOutOne_170 (n := 7) (is := [0, 1, 2, 3, 4, 5, 6]) (rs := []) (bs' := [[(A b, .inr (6, [.ref (A (b + 1)), .ref (A (b + 2)), .int t29.2.2.2.1, .ref (A (b + 3)), .int t29.2.2.2.2.2.1, .ref (A (b + 4)), .int t29.2.2.2.2.2.2.2.1, .ref (A (b + 5)), .ref (A (b + 6)), .int t29.2.2.2.2.2.2.2.2.2.2.1, .int t29.2.2.2.2.2.2.2.2.2.2.2.1, .int t29.2.2.2.2.2.2.2.2.2.2.2.2]))], [(A (b + 1), .inl (gI g, 268, .inl t29.2.1))], [(A (b + 2), .inl (gI g, 1340, .inl t29.2.2.1))], [(A (b + 3), .inl (gI g, 268, .inl t29.2.2.2.2.1))], [(A (b + 4), .inl (gC g, 70, .inl t29.2.2.2.2.2.2.1))], [(A (b + 5), .inl (gI g, 3, .inl t29.2.2.2.2.2.2.2.2.1))], [(A (b + 6), .inl (gI g, 144, .inl t29.2.2.2.2.2.2.2.2.2.1))]]) rfl rfl pm_39 rfl rfl rfl (fun H locs hW => ?_)
          refine lv_pop hx hb dX6_carryOutOne_173 rfl ?_
          refine lv_iload hx hb dX6_carryOutOne_174 (lv_at hl 0 rfl) ?_
          cases h
          exact E _ _ _ _ _ hW rfl rfl dX6_carryOutOne_176
def f_X6_carryOut_l18 (k18 : (Int32 × TX6s) → Option (Int32 × TX6s)) (v18 : Int32 × TX6s) : Option (Int32 × TX6s) :=
if v18.2.2.2.2.2.2.2.2.2.2.1 ≤ v18.1 then (
some (v18.1, (v18.2.1, v18.2.2.1, v18.2.2.2.1, v18.2.2.2.2.1, v18.2.2.2.2.2.1, v18.2.2.2.2.2.2.1, 0, v18.2.2.2.2.2.2.2.2.1, v18.2.2.2.2.2.2.2.2.2.1, v18.2.2.2.2.2.2.2.2.2.2.1, v18.2.2.2.2.2.2.2.2.2.2.2.1, v18.2.2.2.2.2.2.2.2.2.2.2.2)))
else (
(f_X6_carryOutOne v18.2 (4 * v18.1)).bind fun t7 =>
if t7.1 = 0 then (
k18 ((v18.1 + 1), t7.2))
else (
some (v18.1, (t7.2.1, t7.2.2.1, t7.2.2.2.1, t7.2.2.2.2.1, t7.2.2.2.2.2.1, t7.2.2.2.2.2.2.1, 0, t7.2.2.2.2.2.2.2.2.1, t7.2.2.2.2.2.2.2.2.2.1, t7.2.2.2.2.2.2.2.2.2.2.1, t7.2.2.2.2.2.2.2.2.2.2.2.1, t7.2.2.2.2.2.2.2.2.2.2.2.2))))
def f_X6_carryOut (x : TX6s) : Option (Int32 × TX6s) :=
(f_X6_errorPosition x).bind fun t1 =>
if t1.1 = (-6) then (
(f_X6_record t1.2).bind fun t4 =>
lpN f_X6_carryOut_l18 3000 (0, t4))
else (
some ((-5), t1.2))
theorem wo_X6_carryOut : wordsOk yX6_carryOut 0 := by decide +kernel
theorem inX6_carryOut_X6 : ∀ w ∈ wsX60, w ∈ wsX6_carryOut := fun _ h => List.mem_cons_of_mem _ (List.mem_append_right _ h)
set_option maxHeartbeats 4000000 in
set_option maxRecDepth 100000 in
theorem c_X6_carryOut (l : Launch) (g : GG) (A : Nat → Nat) (b : Nat) (x : TX6s) (r : Int32) (x' : TX6s) (h : f_X6_carryOut x = some (r, x')) : CI l yX6_carryOut wsX6_carryOut 6 144 g [.ref (A b)] (wX6 g A b x) r (wX6 g A b x') := by
  refine CI.mk (own := RX6) (by decide) rfl rfl (Nat.le_of_ble_eq_true rfl) ?_
  intro p e R s m args below meth c Z Q C E hR H hW ls hl
  have hx := C.1.1
  have hb := C.1.2.1
  have hown := C.1.2.2.2.1
  replace hW : WdG g Z s.heap H [] [[(A b, .inr (6, [.ref (A (b + 1)), .ref (A (b + 2)), .int x.2.2.1, .ref (A (b + 3)), .int x.2.2.2.2.1, .ref (A (b + 4)), .int x.2.2.2.2.2.2.1, .ref (A (b + 5)), .ref (A (b + 6)), .int x.2.2.2.2.2.2.2.2.2.1, .int x.2.2.2.2.2.2.2.2.2.2.1, .int x.2.2.2.2.2.2.2.2.2.2.2]))], [(A (b + 1), .inl (gI g, 268, .inl x.1))], [(A (b + 2), .inl (gI g, 1340, .inl x.2.1))], [(A (b + 3), .inl (gI g, 268, .inl x.2.2.2.1))], [(A (b + 4), .inl (gC g, 70, .inl x.2.2.2.2.2.1))], [(A (b + 5), .inl (gI g, 3, .inl x.2.2.2.2.2.2.2.1))], [(A (b + 6), .inl (gI g, 144, .inl x.2.2.2.2.2.2.2.2.1))]] := hW.re rfl
  replace hl : lv_has ls 2 [(0, .ref (A b))] := hl
  unfold f_X6_carryOut at h
  refine lv_aload_n hx hb dX6_carryOut_0 rfl (lv_at hl 0 rfl) ?_
  obtain ⟨t1, h2, h⟩ := q_b h
  refine r_cVi C hW (nA := 0) (As := []) (rest := []) (c_X6_errorPosition l g A b x _ _ h2) gX6_carryOut_X6_errorPosition rfl ⟨rfl, wo_X6_errorPosition⟩ (rmk hR rfl rfl) rfl rfl rfl rfl hl.1 (Nat.le_of_ble_eq_true rfl) rz dX6_carryOut_1 (n := 7) (is := [0, 1, 2, 3, 4, 5, 6]) (rs := []) (bs' := [[(A b, .inr (6, [.ref (A (b + 1)), .ref (A (b + 2)), .int t1.2.2.2.1, .ref (A (b + 3)), .int t1.2.2.2.2.2.1, .ref (A (b + 4)), .int t1.2.2.2.2.2.2.2.1, .ref (A (b + 5)), .ref (A (b + 6)), .int t1.2.2.2.2.2.2.2.2.2.2.1, .int t1.2.2.2.2.2.2.2.2.2.2.2.1, .int t1.2.2.2.2.2.2.2.2.2.2.2.2]))], [(A (b + 1), .inl (gI g, 268, .inl t1.2.1))], [(A (b + 2), .inl (gI g, 1340, .inl t1.2.2.1))], [(A (b + 3), .inl (gI g, 268, .inl t1.2.2.2.2.1))], [(A (b + 4), .inl (gC g, 70, .inl t1.2.2.2.2.2.2.1))], [(A (b + 5), .inl (gI g, 3, .inl t1.2.2.2.2.2.2.2.2.1))], [(A (b + 6), .inl (gI g, 144, .inl t1.2.2.2.2.2.2.2.2.2.1))]]) rfl rfl pm_39 rfl rfl rfl (fun H locs hW => ?_)
  refine lv_bipush (v := (-6)) hx hb dX6_carryOut_4 (by decide) ?_
  refine lv_icmp_eq (tgt := 12) hx hb dX6_carryOut_6 (by decide) (fun e3 => ?_) (fun e3 => ?_)
  · replace h := q_t e3 h
    refine lv_aload_n hx hb dX6_carryOut_12 rfl (lv_at hl 0 rfl) ?_
    obtain ⟨t4, h5, h⟩ := q_b h
    refine r_cVv C hW (nA := 0) (As := []) (rest := []) (c_X6_record l g A b t1.2 _ h5) gX6_carryOut_X6_record rfl ⟨rfl, wo_X6_record⟩ (rmk hR rfl rfl) rfl rfl rfl rfl hl.1 (Nat.le_of_ble_eq_true rfl) rz dX6_carryOut_13 (n := 7) (is := [0, 1, 2, 3, 4, 5, 6]) (rs := []) (bs' := [[(A b, .inr (6, [.ref (A (b + 1)), .ref (A (b + 2)), .int t4.2.2.1, .ref (A (b + 3)), .int t4.2.2.2.2.1, .ref (A (b + 4)), .int t4.2.2.2.2.2.2.1, .ref (A (b + 5)), .ref (A (b + 6)), .int t4.2.2.2.2.2.2.2.2.2.1, .int t4.2.2.2.2.2.2.2.2.2.2.1, .int t4.2.2.2.2.2.2.2.2.2.2.2]))], [(A (b + 1), .inl (gI g, 268, .inl t4.1))], [(A (b + 2), .inl (gI g, 1340, .inl t4.2.1))], [(A (b + 3), .inl (gI g, 268, .inl t4.2.2.2.1))], [(A (b + 4), .inl (gC g, 70, .inl t4.2.2.2.2.2.1))], [(A (b + 5), .inl (gI g, 3, .inl t4.2.2.2.2.2.2.2.1))], [(A (b + 6), .inl (gI g, 144, .inl t4.2.2.2.2.2.2.2.2.1))]]) rfl rfl pm_39 rfl rfl rfl (fun H locs hW => ?_)
    refine lv_iconst (v := 0) hx hb dX6_carryOut_16 (by decide) ?_
    refine lv_istore_n (lv' := [(1, .int 0), (0, .ref (A b))]) hx hb dX6_carryOut_17 rfl hl (by decide) rfl (fun ls hl => ?_)
    have L18 : ∀ n18 : Nat, ∀ (v18 : Int32 × TX6s), lpN f_X6_carryOut_l18 n18 v18 = some (r, x') → ∀ (H : Heap) (locs : List Loc), WdG g Z s.heap H locs [[(A b, .inr (6, [.ref (A (b + 1)), .ref (A (b + 2)), .int v18.2.2.2.1, .ref (A (b + 3)), .int v18.2.2.2.2.2.1, .ref (A (b + 4)), .int v18.2.2.2.2.2.2.2.1, .ref (A (b + 5)), .ref (A (b + 6)), .int v18.2.2.2.2.2.2.2.2.2.2.1, .int v18.2.2.2.2.2.2.2.2.2.2.2.1, .int v18.2.2.2.2.2.2.2.2.2.2.2.2]))], [(A (b + 1), .inl (gI g, 268, .inl v18.2.1))], [(A (b + 2), .inl (gI g, 1340, .inl v18.2.2.1))], [(A (b + 3), .inl (gI g, 268, .inl v18.2.2.2.2.1))], [(A (b + 4), .inl (gC g, 70, .inl v18.2.2.2.2.2.2.1))], [(A (b + 5), .inl (gI g, 3, .inl v18.2.2.2.2.2.2.2.2.1))], [(A (b + 6), .inl (gI g, 144, .inl v18.2.2.2.2.2.2.2.2.2.1))]] → ∀ ls : Array Slot, lv_has ls 2 [(0, .ref (A b)), (1, .int v18.1)] → W p l e R s m args below meth c H locs 0 0 Q (F0 m 18 ls []) := by
      intro n18
      induction n18 with
      | zero => intro v18 h; exact absurd (show none = some (r, x') from h) (fun h => by cases h)
      | succ n18 ih18 =>
        intro v18 h H locs hW ls hl
        replace h : f_X6_carryOut_l18 (lpN f_X6_carryOut_l18 n18) v18 = some (r, x') := h
        unfold f_X6_carryOut_l18 at h
        refine lv_iload_n hx hb dX6_carryOut_18 rfl (lv_at hl 1 rfl) ?_
        refine lv_aload_n hx hb dX6_carryOut_19 rfl (lv_at hl 0 rfl) ?_
        refine r_get C hW (K := RX6) (T := TX6) (N := 12) (v := .int v18.2.2.2.2.2.2.2.2.2.2.1) 0 0 9 rfl rfl rfl inX6_carryOut_X6 (by decide) (List.mem_of_getElem? (i := 1) rfl) rfl rfl dX6_carryOut_20 ?_
        refine lv_icmp_ge (tgt := 42) hx hb dX6_carryOut_23 (by decide) (fun e6 => ?_) (fun e6 => ?_)
        · replace h := q_t e6 h
          refine lv_aload_n hx hb dX6_carryOut_42 rfl (lv_at hl 0 rfl) ?_
          refine lv_iconst (v := 0) hx hb dX6_carryOut_43 (by decide) ?_
          refine r_put C hW (bs' := [[(A b, .inr (6, [.ref (A (b + 1)), .ref (A (b + 2)), .int v18.2.2.2.1, .ref (A (b + 3)), .int v18.2.2.2.2.2.1, .ref (A (b + 4)), .int 0, .ref (A (b + 5)), .ref (A (b + 6)), .int v18.2.2.2.2.2.2.2.2.2.2.1, .int v18.2.2.2.2.2.2.2.2.2.2.2.1, .int v18.2.2.2.2.2.2.2.2.2.2.2.2]))], [(A (b + 1), .inl (gI g, 268, .inl v18.2.1))], [(A (b + 2), .inl (gI g, 1340, .inl v18.2.2.1))], [(A (b + 3), .inl (gI g, 268, .inl v18.2.2.2.2.1))], [(A (b + 4), .inl (gC g, 70, .inl v18.2.2.2.2.2.2.1))], [(A (b + 5), .inl (gI g, 3, .inl v18.2.2.2.2.2.2.2.2.1))], [(A (b + 6), .inl (gI g, 144, .inl v18.2.2.2.2.2.2.2.2.2.1))]]) (K := RX6) (T := TX6) (N := 12) 0 0 6 rfl rfl rfl inX6_carryOut_X6 tyX6 tyX6_ok nmX6 (by decide) (List.mem_of_getElem? (i := 2) rfl) rfl rfl (tyX6_ok 6 (by decide)) rfl rfl (Nat.le_of_ble_eq_true rfl) dX6_carryOut_44 rfl (fun H locs hW => ?_)
          refine lv_iload_n hx hb dX6_carryOut_47 rfl (lv_at hl 1 rfl) ?_
          cases h
          exact E _ _ _ _ _ hW rfl rfl dX6_carryOut_48
        · replace h := q_f e6 h
          refine lv_aload_n hx hb dX6_carryOut_26 rfl (lv_at hl 0 rfl) ?_
          refine lv_iconst (v := 4) hx hb dX6_carryOut_27 (by decide) ?_
          refine lv_iload_n hx hb dX6_carryOut_28 rfl (lv_at hl 1 rfl) ?_
          refine lv_imul hx hb dX6_carryOut_29 ?_
          obtain ⟨t7, h8, h⟩ := q_b h
          refine r_cVi C hW (nA := 1) (As := [.int (4 * v18.1)]) (rest := []) (c_X6_carryOutOne l g A b v18.2 (4 * v18.1) _ _ h8) gX6_carryOut_X6_carryOutOne rfl ⟨rfl, wo_X6_carryOutOne⟩ (rmk hR rfl rfl) rfl rfl rfl rfl hl.1 (Nat.le_of_ble_eq_true rfl) rz dX6_carryOut_30 (n := 7) (is := [0, 1, 2, 3, 4, 5, 6]) (rs := []) (bs' := [[(A b, .inr (6, [.ref (A (b + 1)), .ref (A (b + 2)), .int t7.2.2.2.1, .ref (A (b + 3)), .int t7.2.2.2.2.2.1, .ref (A (b + 4)), .int t7.2.2.2.2.2.2.2.1, .ref (A (b + 5)), .ref (A (b + 6)), .int t7.2.2.2.2.2.2.2.2.2.2.1, .int t7.2.2.2.2.2.2.2.2.2.2.2.1, .int t7.2.2.2.2.2.2.2.2.2.2.2.2]))], [(A (b + 1), .inl (gI g, 268, .inl t7.2.1))], [(A (b + 2), .inl (gI g, 1340, .inl t7.2.2.1))], [(A (b + 3), .inl (gI g, 268, .inl t7.2.2.2.2.1))], [(A (b + 4), .inl (gC g, 70, .inl t7.2.2.2.2.2.2.1))], [(A (b + 5), .inl (gI g, 3, .inl t7.2.2.2.2.2.2.2.2.1))], [(A (b + 6), .inl (gI g, 144, .inl t7.2.2.2.2.2.2.2.2.2.1))]]) rfl rfl pm_39 rfl rfl rfl (fun H locs hW => ?_)
          refine lv_if_ne (tgt := 42) hx hb dX6_carryOut_33 (by decide) (fun e9 => ?_) (fun e9 => ?_)
          · replace h := q_f e9 h
            refine lv_aload_n hx hb dX6_carryOut_42 rfl (lv_at hl 0 rfl) ?_
            refine lv_iconst (v := 0) hx hb dX6_carryOut_43 (by decide) ?_
            refine r_put C hW (bs' := [[(A b, .inr (6, [.ref (A (b + 1)), .ref (A (b + 2)), .int t7.2.2.2.1, .ref (A (b + 3)), .int t7.2.2.2.2.2.1, .ref (A (b + 4)), .int 0, .ref (A (b + 5)), .ref (A (b + 6)), .int t7.2.2.2.2.2.2.2.2.2.2.1, .int t7.2.2.2.2.2.2.2.2.2.2.2.1, .int t7.2.2.2.2.2.2.2.2.2.2.2.2]))], [(A (b + 1), .inl (gI g, 268, .inl t7.2.1))], [(A (b + 2), .inl (gI g, 1340, .inl t7.2.2.1))], [(A (b + 3), .inl (gI g, 268, .inl t7.2.2.2.2.1))], [(A (b + 4), .inl (gC g, 70, .inl t7.2.2.2.2.2.2.1))], [(A (b + 5), .inl (gI g, 3, .inl t7.2.2.2.2.2.2.2.2.1))], [(A (b + 6), .inl (gI g, 144, .inl t7.2.2.2.2.2.2.2.2.2.1))]]) (K := RX6) (T := TX6) (N := 12) 0 0 6 rfl rfl rfl inX6_carryOut_X6 tyX6 tyX6_ok nmX6 (by decide) (List.mem_of_getElem? (i := 2) rfl) rfl rfl (tyX6_ok 6 (by decide)) rfl rfl (Nat.le_of_ble_eq_true rfl) dX6_carryOut_44 rfl (fun H locs hW => ?_)
            refine lv_iload_n hx hb dX6_carryOut_47 rfl (lv_at hl 1 rfl) ?_
            cases h
            exact E _ _ _ _ _ hW rfl rfl dX6_carryOut_48
          · replace h := q_t e9 h
            refine lv_iinc (v := (v18.1 + 1)) (lv' := [(1, .int (v18.1 + 1)), (0, .ref (A b))]) hx hb dX6_carryOut_36 hl (k := 1) rfl rfl (by decide) rfl (fun ls hl => ?_)
            refine lv_goto (tgt := 18) hx hb dX6_carryOut_39 (by decide) ?_
            exact ih18 ((v18.1 + 1), t7.2) h _ _ hW _ (lv_sub hl [1, 0] rfl)
    exact L18 3000 (0, t4) h _ _ hW _ (lv_sub hl [1, 0] rfl)
  · replace h := q_f e3 h
    refine lv_bipush (v := (-5)) hx hb dX6_carryOut_9 (by decide) ?_
    cases h
    exact E _ _ _ _ _ hW rfl rfl dX6_carryOut_11
