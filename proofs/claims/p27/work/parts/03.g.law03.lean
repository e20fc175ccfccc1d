def f_L_free (x : TV48s) (p1 : Int32) (p2 : Int32) (p3 : Int32) : Option (Int32) :=
if ((16 * p1) + p2) < 0 ∨ 48 ≤ ((16 * p1) + p2).toNatClampNeg then none else
if (x ((16 * p1) + p2).toNatClampNeg) < 0 then (
some 1)
else (
if ((16 * p1) + p2) < 0 ∨ 48 ≤ ((16 * p1) + p2).toNatClampNeg then none else
if (x ((16 * p1) + p2).toNatClampNeg) = p3 then (
some 1)
else (
if ((16 * p1) + p2) < 0 ∨ 48 ≤ ((16 * p1) + p2).toNatClampNeg then none else
if (x ((16 * p1) + p2).toNatClampNeg) = 2 then (
some 1)
else (
some 0)))
theorem wo_L_free : wordsOk yL_free 4 := by decide +kernel
set_option maxHeartbeats 4000000 in
set_option maxRecDepth 100000 in
theorem c_L_free (l : Launch) (g : GG) (A : Nat → Nat) (b : Nat) (x : TV48s) (p1 : Int32) (p2 : Int32) (p3 : Int32) (r : Int32) (h : f_L_free x p1 p2 p3 = some r) : CI l yL_free wsL_free 0 0 g [.ref (A b), .int p1, .int p2, .int p3] (wV48 g A b x) r (wV48 g A b x) := by
  refine CI.mk (own := RL) (by decide) rfl rfl (Nat.le_of_ble_eq_true rfl) ?_
  intro p e R s m args below meth c Z Q C E hR H hW ls hl
  have hx := C.1.1
  have hb := C.1.2.1
  have hown := C.1.2.2.2.1
  replace hW : WdG g Z s.heap H [] [[(A b, .inl (gI g, 48, .inl x))]] := hW.re rfl
  replace hl : lv_has ls 4 [(0, .ref (A b)), (1, .int p1), (2, .int p2), (3, .int p3)] := hl
  unfold f_L_free at h
  refine lv_aload_n hx hb dL_free_0 rfl (lv_at hl 0 rfl) ?_
  refine lv_bipush (v := 16) hx hb dL_free_1 (by decide) ?_
  refine lv_iload_n hx hb dL_free_3 rfl (lv_at hl 1 rfl) ?_
  refine lv_imul hx hb dL_free_4 ?_
  refine lv_iload_n hx hb dL_free_5 rfl (lv_at hl 2 rfl) ?_
  refine lv_iadd hx hb dL_free_6 ?_
  obtain ⟨g1, h⟩ := q_g h
  refine r_iald C hW 0 0 rfl rfl g1 dL_free_7 ?_
  refine lv_if_lt (tgt := 35) hx hb dL_free_8 (by decide) (fun e2 => ?_) (fun e2 => ?_)
  · replace h := q_t e2 h
    refine lv_iconst (v := 1) hx hb dL_free_35 (by decide) ?_
    refine lv_goto (tgt := 40) hx hb dL_free_36 (by decide) ?_
    cases h
    exact E _ _ _ _ _ hW rfl rfl dL_free_40
  · replace h := q_f e2 h
    refine lv_aload_n hx hb dL_free_11 rfl (lv_at hl 0 rfl) ?_
    refine lv_bipush (v := 16) hx hb dL_free_12 (by decide) ?_
    refine lv_iload_n hx hb dL_free_14 rfl (lv_at hl 1 rfl) ?_
    refine lv_imul hx hb dL_free_15 ?_
    refine lv_iload_n hx hb dL_free_16 rfl (lv_at hl 2 rfl) ?_
    refine lv_iadd hx hb dL_free_17 ?_
    obtain ⟨g3, h⟩ := q_g h
    refine r_iald C hW 0 0 rfl rfl g3 dL_free_18 ?_
    refine lv_iload_n hx hb dL_free_19 rfl (lv_at hl 3 rfl) ?_
    refine lv_icmp_eq (tgt := 35) hx hb dL_free_20 (by decide) (fun e4 => ?_) (fun e4 => ?_)
    · replace h := q_t e4 h
      refine lv_iconst (v := 1) hx hb dL_free_35 (by decide) ?_
      refine lv_goto (tgt := 40) hx hb dL_free_36 (by decide) ?_
      cases h
      exact E _ _ _ _ _ hW rfl rfl dL_free_40
    · replace h := q_f e4 h
      refine lv_aload_n hx hb dL_free_23 rfl (lv_at hl 0 rfl) ?_
      refine lv_bipush (v := 16) hx hb dL_free_24 (by decide) ?_
      refine lv_iload_n hx hb dL_free_26 rfl (lv_at hl 1 rfl) ?_
      refine lv_imul hx hb dL_free_27 ?_
      refine lv_iload_n hx hb dL_free_28 rfl (lv_at hl 2 rfl) ?_
      refine lv_iadd hx hb dL_free_29 ?_
      obtain ⟨g5, h⟩ := q_g h
      refine r_iald C hW 0 0 rfl rfl g5 dL_free_30 ?_
      refine lv_iconst (v := 2) hx hb dL_free_31 (by decide) ?_
      refine lv_icmp_ne (tgt := 39) hx hb dL_free_32 (by decide) (fun e6 => ?_) (fun e6 => ?_)
      · replace h := q_f e6 h
        refine lv_iconst (v := 0) hx hb dL_free_39 (by decide) ?_
        cases h
        exact E _ _ _ _ _ hW rfl rfl dL_free_40
      · replace h := q_t e6 h
        refine lv_iconst (v := 1) hx hb dL_free_35 (by decide) ?_
        refine lv_goto (tgt := 40) hx hb dL_free_36 (by decide) ?_
        cases h
        exact E _ _ _ _ _ hW rfl rfl dL_free_40
def f_L_change_j13 (x : TV48s) (y : TV32s) (p1 : Int32) (p2 : Int32) (p3 : Int32) (p4 : Int32) (w13 : Int32) : Option (Int32) :=
if ((16 * w13) + p3) < 0 ∨ 32 ≤ ((16 * w13) + p3).toNatClampNeg then none else
(f_L_free x p2 p3 p4).bind fun t2 =>
if t2 = 0 then (
some 0)
else (
if ((y ((16 * w13) + p3).toNatClampNeg) - (y ((16 * w13) + p3).toNatClampNeg) / 2 * 2) = 0 then (
some 1)
else (
if (y ((16 * w13) + p3).toNatClampNeg) = 3 then (
if p2 ≤ p1 then (
some 0)
else (
some 1))
else (
some 0)))
def f_L_change (x : TV48s) (y : TV32s) (p1 : Int32) (p2 : Int32) (p3 : Int32) (p4 : Int32) : Option (Int32) :=
if p1 ≤ p2 then (
f_L_change_j13 x y p1 p2 p3 p4 p1)
else (
f_L_change_j13 x y p1 p2 p3 p4 p2)
theorem wo_L_change : wordsOk yL_change 6 := by decide +kernel
set_option maxHeartbeats 4000000 in
set_option maxRecDepth 100000 in
theorem c_L_change (l : Launch) (g : GG) (A : Nat → Nat) (b : Nat) (A2 : Nat → Nat) (b2 : Nat) (x : TV48s) (y : TV32s) (p1 : Int32) (p2 : Int32) (p3 : Int32) (p4 : Int32) (r : Int32) (h : f_L_change x y p1 p2 p3 p4 = some r) : CI l yL_change wsL_change 1 23 g [.ref (A b), .ref (A2 b2), .int p1, .int p2, .int p3, .int p4] (wV48 g A b x ++ wV32 g A2 b2 y) r (wV48 g A b x ++ wV32 g A2 b2 y) := by
  refine CI.mk (own := RL) (by decide) rfl rfl (Nat.le_of_ble_eq_true rfl) ?_
  intro p e R s m args below meth c Z Q C E hR H hW ls hl
  have hx := C.1.1
  have hb := C.1.2.1
  have hown := C.1.2.2.2.1
  replace hW : WdG g Z s.heap H [] [[(A b, .inl (gI g, 48, .inl x))], [(A2 b2, .inl (gI g, 32, .inl y))]] := hW.re rfl
  replace hl : lv_has ls 7 [(0, .ref (A b)), (1, .ref (A2 b2)), (2, .int p1), (3, .int p2), (4, .int p3), (5, .int p4)] := hl
  unfold f_L_change at h
  refine lv_aload_n hx hb dL_change_0 rfl (lv_at hl 1 rfl) ?_
  refine lv_bipush (v := 16) hx hb dL_change_1 (by decide) ?_
  refine lv_iload_n hx hb dL_change_3 rfl (lv_at hl 2 rfl) ?_
  refine lv_iload_n hx hb dL_change_4 rfl (lv_at hl 3 rfl) ?_
  have J13 : ∀ (w13 : Int32), f_L_change_j13 x y p1 p2 p3 p4 w13 = some r → ∀ (H : Heap) (locs : List Loc), WdG g Z s.heap H locs [[(A b, .inl (gI g, 48, .inl x))], [(A2 b2, .inl (gI g, 32, .inl y))]] → ∀ ls : Array Slot, lv_has ls 7 [(0, .ref (A b)), (2, .int p1), (3, .int p2), (4, .int p3), (5, .int p4)] → W p l e R s m args below meth c H locs 0 0 Q (F0 m 13 ls [.int w13, .int 16, .ref (A2 b2)]) := by
    intro w13 h H locs hW ls hl
    unfold f_L_change_j13 at h
    refine lv_imul hx hb dL_change_13 ?_
    refine lv_iload hx hb dL_change_14 (lv_at hl 3 rfl) ?_
    refine lv_iadd hx hb dL_change_16 ?_
    obtain ⟨g1, h⟩ := q_g h
    refine r_iald C hW 1 0 rfl rfl g1 dL_change_17 ?_
    refine lv_istore (lv' := [(6, .int (y ((16 * w13) + p3).toNatClampNeg)), (0, .ref (A b)), (2, .int p1), (3, .int p2), (4, .int p3), (5, .int p4)]) hx hb dL_change_18 hl (by decide) rfl (fun ls hl => ?_)
    refine lv_aload_n hx hb dL_change_20 rfl (lv_at hl 1 rfl) ?_
    refine lv_iload_n hx hb dL_change_21 rfl (lv_at hl 3 rfl) ?_
    refine lv_iload hx hb dL_change_22 (lv_at hl 4 rfl) ?_
    refine lv_iload hx hb dL_change_24 (lv_at hl 5 rfl) ?_
    obtain ⟨t2, h3, h⟩ := q_b h
    refine r_cSi C hW (nA := 4) (As := [.ref (A b), .int p2, .int p3, .int p4]) (rest := []) (c_L_free l g A b x p2 p3 p4 _ h3) gL_change_L_free rfl wo_L_free (rmk hR rfl rfl) rfl rfl hl.1 (Nat.le_of_ble_eq_true rfl) rz dL_change_26 (n := 2) (is := [0]) (rs := [1]) (bs' := [[(A b, .inl (gI g, 48, .inl x))], [(A2 b2, .inl (gI g, 32, .inl y))]]) rfl rfl pm_40491ed9 rfl rfl rfl (fun H locs hW => ?_)
    refine lv_if_eq (tgt := 54) hx hb dL_change_29 (by decide) (fun e4 => ?_) (fun e4 => ?_)
    · replace h := q_t e4 h
      refine lv_iconst (v := 0) hx hb dL_change_54 (by decide) ?_
      cases h
      exact E _ _ _ _ _ hW rfl rfl dL_change_55
    · replace h := q_f e4 h
      refine lv_iload hx hb dL_change_32 (lv_at hl 0 rfl) ?_
      refine lv_iconst (v := 2) hx hb dL_change_34 (by decide) ?_
      have g5 : ¬ (2 : Int32) = 0 := by decide
      refine lv_irem hx hb dL_change_35 g5 ?_
      refine lv_if_eq (tgt := 50) hx hb dL_change_36 (by decide) (fun e6 => ?_) (fun e6 => ?_)
      · replace h := q_t e6 h
        refine lv_iconst (v := 1) hx hb dL_change_50 (by decide) ?_
        refine lv_goto (tgt := 55) hx hb dL_change_51 (by decide) ?_
        cases h
        exact E _ _ _ _ _ hW rfl rfl dL_change_55
      · replace h := q_f e6 h
        refine lv_iload hx hb dL_change_39 (lv_at hl 0 rfl) ?_
        refine lv_iconst (v := 3) hx hb dL_change_41 (by decide) ?_
        refine lv_icmp_ne (tgt := 54) hx hb dL_change_42 (by decide) (fun e7 => ?_) (fun e7 => ?_)
        · replace h := q_f e7 h
          refine lv_iconst (v := 0) hx hb dL_change_54 (by decide) ?_
          cases h
          exact E _ _ _ _ _ hW rfl rfl dL_change_55
        · replace h := q_t e7 h
          refine lv_iload_n hx hb dL_change_45 rfl (lv_at hl 3 rfl) ?_
          refine lv_iload_n hx hb dL_change_46 rfl (lv_at hl 2 rfl) ?_
          refine lv_icmp_le (tgt := 54) hx hb dL_change_47 (by decide) (fun e8 => ?_) (fun e8 => ?_)
          · replace h := q_t e8 h
            refine lv_iconst (v := 0) hx hb dL_change_54 (by decide) ?_
            cases h
            exact E _ _ _ _ _ hW rfl rfl dL_change_55
          · replace h := q_f e8 h
            refine lv_iconst (v := 1) hx hb dL_change_50 (by decide) ?_
            refine lv_goto (tgt := 55) hx hb dL_change_51 (by decide) ?_
            cases h
            exact E _ _ _ _ _ hW rfl rfl dL_change_55
  refine lv_icmp_le (tgt := 12) hx hb dL_change_5 (by decide) (fun e9 => ?_) (fun e9 => ?_)
  · replace h := q_t e9 h
    refine lv_iload_n hx hb dL_change_12 rfl (lv_at hl 2 rfl) ?_
    exact J13 p1 h _ _ hW _ (lv_sub hl [0, 2, 3, 4, 5] rfl)
  · replace h := q_f e9 h
    refine lv_iload_n hx hb dL_change_8 rfl (lv_at hl 3 rfl) ?_
    refine lv_goto (tgt := 13) hx hb dL_change_9 (by decide) ?_
    exact J13 p2 h _ _ hW _ (lv_sub hl [0, 2, 3, 4, 5] rfl)
