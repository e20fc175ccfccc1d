def f_X6_isRead (x : TX6s) (p1 : Int32) (p2 : Int32) : Option (Int32) :=
(f_X6_cellAt p1 p2).bind fun t1 =>
if (t1 + 2) < 0 ∨ 268 ≤ (t1 + 2).toNatClampNeg then none else
if (x.1 (t1 + 2).toNatClampNeg) ≤ 0 then (
some 0)
else (
if (t1 + 3) < 0 ∨ 268 ≤ (t1 + 3).toNatClampNeg then none else
if (0 : Int32) < 0 ∨ 268 ≤ (0 : Int32).toNatClampNeg then none else
if (x.1 (t1 + 3).toNatClampNeg) < (x.1 (0 : Int32).toNatClampNeg) then (
some 0)
else (
some 1))
theorem wo_X6_isRead : wordsOk yX6_isRead 2 := by decide +kernel
theorem inX6_isRead_X6 : ∀ w ∈ wsX60, w ∈ wsX6_isRead := fun _ h => List.mem_cons_of_mem _ (List.mem_append_right _ h)
set_option maxHeartbeats 4000000 in
set_option maxRecDepth 100000 in
theorem c_X6_isRead (l : Launch) (g : GG) (A : Nat → Nat) (b : Nat) (x : TX6s) (p1 : Int32) (p2 : Int32) (r : Int32) (h : f_X6_isRead x p1 p2 = some r) : CI l yX6_isRead wsX6_isRead 1 21 g [.ref (A b), .int p1, .int p2] (wX6 g A b x) r (wX6 g A b x) := by
  refine CI.mk (own := RX6) (by decide) rfl rfl (Nat.le_of_ble_eq_true rfl) ?_
  intro p e R s m args below meth c Z Q C E hR H hW ls hl
  have hx := C.1.1
  have hb := C.1.2.1
  have hown := C.1.2.2.2.1
  replace hW : WdG g Z s.heap H [] [[(A b, .inr (6, [.ref (A (b + 1)), .ref (A (b + 2)), .int x.2.2.1, .ref (A (b + 3)), .int x.2.2.2.2.1, .ref (A (b + 4)), .int x.2.2.2.2.2.2.1, .ref (A (b + 5)), .ref (A (b + 6)), .int x.2.2.2.2.2.2.2.2.2.1, .int x.2.2.2.2.2.2.2.2.2.2.1, .int x.2.2.2.2.2.2.2.2.2.2.2]))], [(A (b + 1), .inl (gI g, 268, .inl x.1))], [(A (b + 2), .inl (gI g, 1340, .inl x.2.1))], [(A (b + 3), .inl (gI g, 268, .inl x.2.2.2.1))], [(A (b + 4), .inl (gC g, 70, .inl x.2.2.2.2.2.1))], [(A (b + 5), .inl (gI g, 3, .inl x.2.2.2.2.2.2.2.1))], [(A (b + 6), .inl (gI g, 144, .inl x.2.2.2.2.2.2.2.2.1))]] := hW.re rfl
  replace hl : lv_has ls 4 [(0, .ref (A b)), (1, .int p1), (2, .int p2)] := hl
  unfold f_X6_isRead at h
  refine lv_iload_n hx hb dX6_isRead_0 rfl (lv_at hl 1 rfl) ?_
  refine lv_iload_n hx hb dX6_isRead_1 rfl (lv_at hl 2 rfl) ?_
  obtain ⟨t1, h2, h⟩ := q_b h
  refine r_cSi C hW (nA := 2) (As := [.int p1, .int p2]) (rest := []) (c_X6_cellAt l g p1 p2 _ h2) gX6_isRead_X6_cellAt rfl wo_X6_cellAt (rmk hR rfl rfl) rfl rfl hl.1 (Nat.le_of_ble_eq_true rfl) rz dX6_isRead_2 (n := 7) (is := []) (rs := [0, 1, 2, 3, 4, 5, 6]) (bs' := [[(A b, .inr (6, [.ref (A (b + 1)), .ref (A (b + 2)), .int x.2.2.1, .ref (A (b + 3)), .int x.2.2.2.2.1, .ref (A (b + 4)), .int x.2.2.2.2.2.2.1, .ref (A (b + 5)), .ref (A (b + 6)), .int x.2.2.2.2.2.2.2.2.2.1, .int x.2.2.2.2.2.2.2.2.2.2.1, .int x.2.2.2.2.2.2.2.2.2.2.2]))], [(A (b + 1), .inl (gI g, 268, .inl x.1))], [(A (b + 2), .inl (gI g, 1340, .inl x.2.1))], [(A (b + 3), .inl (gI g, 268, .inl x.2.2.2.1))], [(A (b + 4), .inl (gC g, 70, .inl x.2.2.2.2.2.1))], [(A (b + 5), .inl (gI g, 3, .inl x.2.2.2.2.2.2.2.1))], [(A (b + 6), .inl (gI g, 144, .inl x.2.2.2.2.2.2.2.2.1))]]) rfl rfl pm_38 rfl rfl rfl (fun H locs hW => ?_)
  refine lv_istore_n (lv' := [(3, .int t1), (0, .ref (A b)), (1, .int p1), (2, .int p2)]) hx hb dX6_isRead_5 rfl hl (by decide) rfl (fun ls hl => ?_)
  refine lv_aload_n hx hb dX6_isRead_6 rfl (lv_at hl 1 rfl) ?_
  refine r_get C hW (K := RX6) (T := TX6) (N := 12) (v := .ref (A (b + 1))) 0 0 0 rfl rfl rfl inX6_isRead_X6 (by decide) (List.mem_of_getElem? (i := 1) rfl) rfl rfl dX6_isRead_7 ?_
  refine lv_iload_n hx hb dX6_isRead_10 rfl (lv_at hl 0 rfl) ?_
  refine lv_iconst (v := 2) hx hb dX6_isRead_11 (by decide) ?_
  refine lv_iadd hx hb dX6_isRead_12 ?_
  obtain ⟨g3, h⟩ := q_g h
  refine r_iald C hW 1 0 rfl rfl g3 dX6_isRead_13 ?_
  refine lv_if_le (tgt := 38) hx hb dX6_isRead_14 (by decide) (fun e4 => ?_) (fun e4 => ?_)
  · replace h := q_t e4 h
    refine lv_iconst (v := 0) hx hb dX6_isRead_38 (by decide) ?_
    cases h
    exact E _ _ _ _ _ hW rfl rfl dX6_isRead_39
  · replace h := q_f e4 h
    refine lv_aload_n hx hb dX6_isRead_17 rfl (lv_at hl 1 rfl) ?_
    refine r_get C hW (K := RX6) (T := TX6) (N := 12) (v := .ref (A (b + 1))) 0 0 0 rfl rfl rfl inX6_isRead_X6 (by decide) (List.mem_of_getElem? (i := 1) rfl) rfl rfl dX6_isRead_18 ?_
    refine lv_iload_n hx hb dX6_isRead_21 rfl (lv_at hl 0 rfl) ?_
    refine lv_iconst (v := 3) hx hb dX6_isRead_22 (by decide) ?_
    refine lv_iadd hx hb dX6_isRead_23 ?_
    obtain ⟨g5, h⟩ := q_g h
    refine r_iald C hW 1 0 rfl rfl g5 dX6_isRead_24 ?_
    refine lv_aload_n hx hb dX6_isRead_25 rfl (lv_at hl 1 rfl) ?_
    refine r_get C hW (K := RX6) (T := TX6) (N := 12) (v := .ref (A (b + 1))) 0 0 0 rfl rfl rfl inX6_isRead_X6 (by decide) (List.mem_of_getElem? (i := 1) rfl) rfl rfl dX6_isRead_26 ?_
    refine lv_iconst (v := 0) hx hb dX6_isRead_29 (by decide) ?_
    obtain ⟨g6, h⟩ := q_g h
    refine r_iald C hW 1 0 rfl rfl g6 dX6_isRead_30 ?_
    refine lv_icmp_lt (tgt := 38) hx hb dX6_isRead_31 (by decide) (fun e7 => ?_) (fun e7 => ?_)
    · replace h := q_t e7 h
      refine lv_iconst (v := 0) hx hb dX6_isRead_38 (by decide) ?_
      cases h
      exact E _ _ _ _ _ hW rfl rfl dX6_isRead_39
    · replace h := q_f e7 h
      refine lv_iconst (v := 1) hx hb dX6_isRead_34 (by decide) ?_
      refine lv_goto (tgt := 39) hx hb dX6_isRead_35 (by decide) ?_
      cases h
      exact E _ _ _ _ _ hW rfl rfl dX6_isRead_39
def f_X6_loses_j44 (x : TX6s) (p1 : Int32) (w44 : Int32) : Option (Int32 × TX6s) :=
if (p1 + 1) < 0 ∨ 268 ≤ (p1 + 1).toNatClampNeg then none else
if (p1 + 1) < 0 ∨ 268 ≤ (p1 + 1).toNatClampNeg then none else
if ((upd x.1 (p1 + 1).toNatClampNeg w44) (p1 + 1).toNatClampNeg) = 0 then (
if p1 < 0 ∨ 268 ≤ (p1).toNatClampNeg then none else
some (1, ((upd (upd x.1 (p1 + 1).toNatClampNeg w44) (p1).toNatClampNeg 0), x.2.1, x.2.2.1, x.2.2.2.1, x.2.2.2.2.1, x.2.2.2.2.2.1, x.2.2.2.2.2.2.1, x.2.2.2.2.2.2.2.1, x.2.2.2.2.2.2.2.2.1, x.2.2.2.2.2.2.2.2.2.1, x.2.2.2.2.2.2.2.2.2.2.1, x.2.2.2.2.2.2.2.2.2.2.2)))
else (
some (0, ((upd x.1 (p1 + 1).toNatClampNeg w44), x.2.1, x.2.2.1, x.2.2.2.1, x.2.2.2.2.1, x.2.2.2.2.2.1, x.2.2.2.2.2.2.1, x.2.2.2.2.2.2.2.1, x.2.2.2.2.2.2.2.2.1, x.2.2.2.2.2.2.2.2.2.1, x.2.2.2.2.2.2.2.2.2.2.1, x.2.2.2.2.2.2.2.2.2.2.2)))
def f_X6_loses (x : TX6s) (p1 : Int32) (p2 : Int32) : Option (Int32 × TX6s) :=
if p1 < 0 ∨ 268 ≤ (p1).toNatClampNeg then none else
if (x.1 (p1).toNatClampNeg) = 0 then (
some (0, x))
else (
if (p1 + 1) < 0 ∨ 268 ≤ (p1 + 1).toNatClampNeg then none else
if (x.1 (p1 + 1).toNatClampNeg) ≤ p2 then (
f_X6_loses_j44 x p1 0)
else (
if (p1 + 1) < 0 ∨ 268 ≤ (p1 + 1).toNatClampNeg then none else
f_X6_loses_j44 x p1 ((x.1 (p1 + 1).toNatClampNeg) - p2)))
theorem wo_X6_loses : wordsOk yX6_loses 2 := by decide +kernel
theorem inX6_loses_X6 : ∀ w ∈ wsX60, w ∈ wsX6_loses := fun _ h => List.mem_cons_of_mem _ (List.mem_append_right _ h)
set_option maxHeartbeats 4000000 in
set_option maxRecDepth 100000 in
theorem c_X6_loses (l : Launch) (g : GG) (A : Nat → Nat) (b : Nat) (x : TX6s) (p1 : Int32) (p2 : Int32) (r : Int32) (x' : TX6s) (h : f_X6_loses x p1 p2 = some (r, x')) : CI l yX6_loses wsX6_loses 0 0 g [.ref (A b), .int p1, .int p2] (wX6 g A b x) r (wX6 g A b x') := by
  refine CI.mk (own := RX6) (by decide) rfl rfl (Nat.le_of_ble_eq_true rfl) ?_
  intro p e R s m args below meth c Z Q C E hR H hW ls hl
  have hx := C.1.1
  have hb := C.1.2.1
  have hown := C.1.2.2.2.1
  replace hW : WdG g Z s.heap H [] [[(A b, .inr (6, [.ref (A (b + 1)), .ref (A (b + 2)), .int x.2.2.1, .ref (A (b + 3)), .int x.2.2.2.2.1, .ref (A (b + 4)), .int x.2.2.2.2.2.2.1, .ref (A (b + 5)), .ref (A (b + 6)), .int x.2.2.2.2.2.2.2.2.2.1, .int x.2.2.2.2.2.2.2.2.2.2.1, .int x.2.2.2.2.2.2.2.2.2.2.2]))], [(A (b + 1), .inl (gI g, 268, .inl x.1))], [(A (b + 2), .inl (gI g, 1340, .inl x.2.1))], [(A (b + 3), .inl (gI g, 268, .inl x.2.2.2.1))], [(A (b + 4), .inl (gC g, 70, .inl x.2.2.2.2.2.1))], [(A (b + 5), .inl (gI g, 3, .inl x.2.2.2.2.2.2.2.1))], [(A (b + 6), .inl (gI g, 144, .inl x.2.2.2.2.2.2.2.2.1))]] := hW.re rfl
  replace hl : lv_has ls 3 [(0, .ref (A b)), (1, .int p1), (2, .int p2)] := hl
  unfold f_X6_loses at h
  refine lv_aload_n hx hb dX6_loses_0 rfl (lv_at hl 0 rfl) ?_
  refine r_get C hW (K := RX6) (T := TX6) (N := 12) (v := .ref (A (b + 1))) 0 0 0 rfl rfl rfl inX6_loses_X6 (by decide) (List.mem_of_getElem? (i := 1) rfl) rfl rfl dX6_loses_1 ?_
  refine lv_iload_n hx hb dX6_loses_4 rfl (lv_at hl 1 rfl) ?_
  obtain ⟨g1, h⟩ := q_g h
  refine r_iald C hW 1 0 rfl rfl g1 dX6_loses_5 ?_
  refine lv_if_ne (tgt := 11) hx hb dX6_loses_6 (by decide) (fun e2 => ?_) (fun e2 => ?_)
  · replace h := q_f e2 h
    refine lv_aload_n hx hb dX6_loses_11 rfl (lv_at hl 0 rfl) ?_
    refine r_get C hW (K := RX6) (T := TX6) (N := 12) (v := .ref (A (b + 1))) 0 0 0 rfl rfl rfl inX6_loses_X6 (by decide) (List.mem_of_getElem? (i := 1) rfl) rfl rfl dX6_loses_12 ?_
    refine lv_iload_n hx hb dX6_loses_15 rfl (lv_at hl 1 rfl) ?_
    refine lv_iconst (v := 1) hx hb dX6_loses_16 (by decide) ?_
    refine lv_iadd hx hb dX6_loses_17 ?_
    refine lv_aload_n hx hb dX6_loses_18 rfl (lv_at hl 0 rfl) ?_
    refine r_get C hW (K := RX6) (T := TX6) (N := 12) (v := .ref (A (b + 1))) 0 0 0 rfl rfl rfl inX6_loses_X6 (by decide) (List.mem_of_getElem? (i := 1) rfl) rfl rfl dX6_loses_19 ?_
    refine lv_iload_n hx hb dX6_loses_22 rfl (lv_at hl 1 rfl) ?_
    refine lv_iconst (v := 1) hx hb dX6_loses_23 (by decide) ?_
    refine lv_iadd hx hb dX6_loses_24 ?_
    obtain ⟨g3, h⟩ := q_g h
    refine r_iald C hW 1 0 rfl rfl g3 dX6_loses_25 ?_
    refine lv_iload_n hx hb dX6_loses_26 rfl (lv_at hl 2 rfl) ?_
    have J44 : ∀ (w44 : Int32), f_X6_loses_j44 x p1 w44 = some (r, x') → ∀ (H : Heap) (locs : List Loc), WdG g Z s.heap H locs [[(A b, .inr (6, [.ref (A (b + 1)), .ref (A (b + 2)), .int x.2.2.1, .ref (A (b + 3)), .int x.2.2.2.2.1, .ref (A (b + 4)), .int x.2.2.2.2.2.2.1, .ref (A (b + 5)), .ref (A (b + 6)), .int x.2.2.2.2.2.2.2.2.2.1, .int x.2.2.2.2.2.2.2.2.2.2.1, .int x.2.2.2.2.2.2.2.2.2.2.2]))], [(A (b + 1), .inl (gI g, 268, .inl x.1))], [(A (b + 2), .inl (gI g, 1340, .inl x.2.1))], [(A (b + 3), .inl (gI g, 268, .inl x.2.2.2.1))], [(A (b + 4), .inl (gC g, 70, .inl x.2.2.2.2.2.1))], [(A (b + 5), .inl (gI g, 3, .inl x.2.2.2.2.2.2.2.1))], [(A (b + 6), .inl (gI g, 144, .inl x.2.2.2.2.2.2.2.2.1))]] → ∀ ls : Array Slot, lv_has ls 3 [(0, .ref (A b)), (1, .int p1)] → W p l e R s m args below meth c H locs 0 0 Q (F0 m 44 ls [.int w44, .int (p1 + 1), .ref (A (b + 1))]) := by
      intro w44 h H locs hW ls hl
      unfold f_X6_loses_j44 at h
      obtain ⟨g4, h⟩ := q_g h
      refine r_iast C hW (bs' := [[(A b, .inr (6, [.ref (A (b + 1)), .ref (A (b + 2)), .int x.2.2.1, .ref (A (b + 3)), .int x.2.2.2.2.1, .ref (A (b + 4)), .int x.2.2.2.2.2.2.1, .ref (A (b + 5)), .ref (A (b + 6)), .int x.2.2.2.2.2.2.2.2.2.1, .int x.2.2.2.2.2.2.2.2.2.2.1, .int x.2.2.2.2.2.2.2.2.2.2.2]))], [(A (b + 1), .inl (gI g, 268, .inl (upd x.1 (p1 + 1).toNatClampNeg w44)))], [(A (b + 2), .inl (gI g, 1340, .inl x.2.1))], [(A (b + 3), .inl (gI g, 268, .inl x.2.2.2.1))], [(A (b + 4), .inl (gC g, 70, .inl x.2.2.2.2.2.1))], [(A (b + 5), .inl (gI g, 3, .inl x.2.2.2.2.2.2.2.1))], [(A (b + 6), .inl (gI g, 144, .inl x.2.2.2.2.2.2.2.2.1))]]) 1 0 rfl rfl g4 dX6_loses_44 rfl (fun H locs hW => ?_)
      refine lv_aload_n hx hb dX6_loses_45 rfl (lv_at hl 0 rfl) ?_
      refine r_get C hW (K := RX6) (T := TX6) (N := 12) (v := .ref (A (b + 1))) 0 0 0 rfl rfl rfl inX6_loses_X6 (by decide) (List.mem_of_getElem? (i := 1) rfl) rfl rfl dX6_loses_46 ?_
      refine lv_iload_n hx hb dX6_loses_49 rfl (lv_at hl 1 rfl) ?_
      refine lv_iconst (v := 1) hx hb dX6_loses_50 (by decide) ?_
      refine lv_iadd hx hb dX6_loses_51 ?_
      obtain ⟨g5, h⟩ := q_g h
      refine r_iald C hW 1 0 rfl rfl g5 dX6_loses_52 ?_
      refine lv_if_ne (tgt := 65) hx hb dX6_loses_53 (by decide) (fun e6 => ?_) (fun e6 => ?_)
      · replace h := q_f e6 h
        refine lv_iconst (v := 0) hx hb dX6_loses_65 (by decide) ?_
        cases h
        exact E _ _ _ _ _ hW rfl rfl dX6_loses_66
      · replace h := q_t e6 h
        refine lv_aload_n hx hb dX6_loses_56 rfl (lv_at hl 0 rfl) ?_
        refine r_get C hW (K := RX6) (T := TX6) (N := 12) (v := .ref (A (b + 1))) 0 0 0 rfl rfl rfl inX6_loses_X6 (by decide) (List.mem_of_getElem? (i := 1) rfl) rfl rfl dX6_loses_57 ?_
        refine lv_iload_n hx hb dX6_loses_60 rfl (lv_at hl 1 rfl) ?_
        refine lv_iconst (v := 0) hx hb dX6_loses_61 (by decide) ?_
        obtain ⟨g7, h⟩ := q_g h
        refine r_iast C hW (bs' := [[(A b, .inr (6, [.ref (A (b + 1)), .ref (A (b + 2)), .int x.2.2.1, .ref (A (b + 3)), .int x.2.2.2.2.1, .ref (A (b + 4)), .int x.2.2.2.2.2.2.1, .ref (A (b + 5)), .ref (A (b + 6)), .int x.2.2.2.2.2.2.2.2.2.1, .int x.2.2.2.2.2.2.2.2.2.2.1, .int x.2.2.2.2.2.2.2.2.2.2.2]))], [(A (b + 1), .inl (gI g, 268, .inl (upd (upd x.1 (p1 + 1).toNatClampNeg w44) (p1).toNatClampNeg 0)))], [(A (b + 2), .inl (gI g, 1340, .inl x.2.1))], [(A (b + 3), .inl (gI g, 268, .inl x.2.2.2.1))], [(A (b + 4), .inl (gC g, 70, .inl x.2.2.2.2.2.1))], [(A (b + 5), .inl (gI g, 3, .inl x.2.2.2.2.2.2.2.1))], [(A (b + 6), .inl (gI g, 144, .inl x.2.2.2.2.2.2.2.2.1))]]) 1 0 rfl rfl g7 dX6_loses_62 rfl (fun H locs hW => ?_)
        refine lv_iconst (v := 1) hx hb dX6_loses_63 (by decide) ?_
        cases h
        exact E _ _ _ _ _ hW rfl rfl dX6_loses_64
    refine lv_icmp_le (tgt := 43) hx hb dX6_loses_27 (by decide) (fun e8 => ?_) (fun e8 => ?_)
    · replace h := q_t e8 h
      refine lv_iconst (v := 0) hx hb dX6_loses_43 (by decide) ?_
      exact J44 0 h _ _ hW _ (lv_sub hl [0, 1] rfl)
    · replace h := q_f e8 h
      refine lv_aload_n hx hb dX6_loses_30 rfl (lv_at hl 0 rfl) ?_
      refine r_get C hW (K := RX6) (T := TX6) (N := 12) (v := .ref (A (b + 1))) 0 0 0 rfl rfl rfl inX6_loses_X6 (by decide) (List.mem_of_getElem? (i := 1) rfl) rfl rfl dX6_loses_31 ?_
      refine lv_iload_n hx hb dX6_loses_34 rfl (lv_at hl 1 rfl) ?_
      refine lv_iconst (v := 1) hx hb dX6_loses_35 (by decide) ?_
      refine lv_iadd hx hb dX6_loses_36 ?_
      obtain ⟨g9, h⟩ := q_g h
      refine r_iald C hW 1 0 rfl rfl g9 dX6_loses_37 ?_
      refine lv_iload_n hx hb dX6_loses_38 rfl (lv_at hl 2 rfl) ?_
      refine lv_isub hx hb dX6_loses_39 ?_
      refine lv_goto (tgt := 44) hx hb dX6_loses_40 (by decide) ?_
      exact J44 ((x.1 (p1 + 1).toNatClampNeg) - p2) h _ _ hW _ (lv_sub hl [0, 1] rfl)
  · replace h := q_t e2 h
    refine lv_iconst (v := 0) hx hb dX6_loses_9 (by decide) ?_
    cases h
    exact E _ _ _ _ _ hW rfl rfl dX6_loses_10
def f_X6_lossOf_j37 (x : TX6s) (p1 : Int32) (w37 : Int32) : Option (Int32) :=
if w37 = 0 then (
if (2 + p1) < 0 ∨ 268 ≤ (2 + p1).toNatClampNeg then none else
some (x.1 (2 + p1).toNatClampNeg))
else (
if (2 + p1) < 0 ∨ 268 ≤ (2 + p1).toNatClampNeg then none else
some ((x.1 (2 + p1).toNatClampNeg) / 2))
def f_X6_lossOf_j36 (x : TX6s) (p1 : Int32) (w36 : Unit) : Option (Int32) :=
f_X6_lossOf_j37 x p1 0
def f_X6_lossOf_j23 (x : TX6s) (p1 : Int32) (p2 : Int32) (w23 : Unit) : Option (Int32) :=
(f_X6_isRead x p1 p2).bind fun t8 =>
if t8 = 0 then (
f_X6_lossOf_j36 x p1 ())
else (
f_X6_lossOf_j37 x p1 1)
def f_X6_lossOf (x : TX6s) (p1 : Int32) (p2 : Int32) : Option (Int32) :=
(f_X6_cellAt p1 p2).bind fun t1 =>
if (t1 + 2) < 0 ∨ 268 ≤ (t1 + 2).toNatClampNeg then none else
if (x.1 (t1 + 2).toNatClampNeg) = 1 then (
f_X6_lossOf_j23 x p1 p2 ())
else (
if (x.1 (t1 + 2).toNatClampNeg) = 2 then (
f_X6_lossOf_j23 x p1 p2 ())
else (
f_X6_lossOf_j36 x p1 ()))
theorem wo_X6_lossOf : wordsOk yX6_lossOf 2 := by decide +kernel
theorem inX6_lossOf_X6 : ∀ w ∈ wsX60, w ∈ wsX6_lossOf := fun _ h => List.mem_cons_of_mem _ (List.mem_append_right _ h)
set_option maxHeartbeats 4000000 in
set_option maxRecDepth 100000 in
theorem c_X6_lossOf (l : Launch) (g : GG) (A : Nat → Nat) (b : Nat) (x : TX6s) (p1 : Int32) (p2 : Int32) (r : Int32) (h : f_X6_lossOf x p1 p2 = some r) : CI l yX6_lossOf wsX6_lossOf 2 44 g [.ref (A b), .int p1, .int p2] (wX6 g A b x) r (wX6 g A b x) := by
  refine CI.mk (own := RX6) (by decide) rfl rfl (Nat.le_of_ble_eq_true rfl) ?_
  intro p e R s m args below meth c Z Q C E hR H hW ls hl
  have hx := C.1.1
  have hb := C.1.2.1
  have hown := C.1.2.2.2.1
  replace hW : WdG g Z s.heap H [] [[(A b, .inr (6, [.ref (A (b + 1)), .ref (A (b + 2)), .int x.2.2.1, .ref (A (b + 3)), .int x.2.2.2.2.1, .ref (A (b + 4)), .int x.2.2.2.2.2.2.1, .ref (A (b + 5)), .ref (A (b + 6)), .int x.2.2.2.2.2.2.2.2.2.1, .int x.2.2.2.2.2.2.2.2.2.2.1, .int x.2.2.2.2.2.2.2.2.2.2.2]))], [(A (b + 1), .inl (gI g, 268, .inl x.1))], [(A (b + 2), .inl (gI g, 1340, .inl x.2.1))], [(A (b + 3), .inl (gI g, 268, .inl x.2.2.2.1))], [(A (b + 4), .inl (gC g, 70, .inl x.2.2.2.2.2.1))], [(A (b + 5), .inl (gI g, 3, .inl x.2.2.2.2.2.2.2.1))], [(A (b + 6), .inl (gI g, 144, .inl x.2.2.2.2.2.2.2.2.1))]] := hW.re rfl
  replace hl : lv_has ls 5 [(0, .ref (A b)), (1, .int p1), (2, .int p2)] := hl
  unfold f_X6_lossOf at h
  refine lv_aload_n hx hb dX6_lossOf_0 rfl (lv_at hl 0 rfl) ?_
  refine r_get C hW (K := RX6) (T := TX6) (N := 12) (v := .ref (A (b + 1))) 0 0 0 rfl rfl rfl inX6_lossOf_X6 (by decide) (List.mem_of_getElem? (i := 1) rfl) rfl rfl dX6_lossOf_1 ?_
  refine lv_iload_n hx hb dX6_lossOf_4 rfl (lv_at hl 1 rfl) ?_
  refine lv_iload_n hx hb dX6_lossOf_5 rfl (lv_at hl 2 rfl) ?_
  obtain ⟨t1, h2, h⟩ := q_b h
  refine r_cSi C hW (nA := 2) (As := [.int p1, .int p2]) (rest := [.ref (A (b + 1))]) (c_X6_cellAt l g p1 p2 _ h2) gX6_lossOf_X6_cellAt rfl wo_X6_cellAt (rmk hR rfl rfl) rfl rfl hl.1 (Nat.le_of_ble_eq_true rfl) rz dX6_lossOf_6 (n := 7) (is := []) (rs := [0, 1, 2, 3, 4, 5, 6]) (bs' := [[(A b, .inr (6, [.ref (A (b + 1)), .ref (A (b + 2)), .int x.2.2.1, .ref (A (b + 3)), .int x.2.2.2.2.1, .ref (A (b + 4)), .int x.2.2.2.2.2.2.1, .ref (A (b + 5)), .ref (A (b + 6)), .int x.2.2.2.2.2.2.2.2.2.1, .int x.2.2.2.2.2.2.2.2.2.2.1, .int x.2.2.2.2.2.2.2.2.2.2.2]))], [(A (b + 1), .inl (gI g, 268, .inl x.1))], [(A (b + 2), .inl (gI g, 1340, .inl x.2.1))], [(A (b + 3), .inl (gI g, 268, .inl x.2.2.2.1))], [(A (b + 4), .inl (gC g, 70, .inl x.2.2.2.2.2.1))], [(A (b + 5), .inl (gI g, 3, .inl x.2.2.2.2.2.2.2.1))], [(A (b + 6), .inl (gI g, 144, .inl x.2.2.2.2.2.2.2.2.1))]]) rfl rfl pm_38 rfl rfl rfl (fun H locs hW => ?_)
  refine lv_iconst (v := 2) hx hb dX6_lossOf_9 (by decide) ?_
  refine lv_iadd hx hb dX6_lossOf_10 ?_
  obtain ⟨g3, h⟩ := q_g h
  refine r_iald C hW 1 0 rfl rfl g3 dX6_lossOf_11 ?_
  refine lv_istore_n (lv' := [(3, .int (x.1 (t1 + 2).toNatClampNeg)), (0, .ref (A b)), (1, .int p1), (2, .int p2)]) hx hb dX6_lossOf_12 rfl hl (by decide) rfl (fun ls hl => ?_)
  refine lv_iload_n hx hb dX6_lossOf_13 rfl (lv_at hl 0 rfl) ?_
  refine lv_iconst (v := 1) hx hb dX6_lossOf_14 (by decide) ?_
  have J37 : ∀ (w37 : Int32), f_X6_lossOf_j37 x p1 w37 = some r → ∀ (H : Heap) (locs : List Loc), WdG g Z s.heap H locs [[(A b, .inr (6, [.ref (A (b + 1)), .ref (A (b + 2)), .int x.2.2.1, .ref (A (b + 3)), .int x.2.2.2.2.1, .ref (A (b + 4)), .int x.2.2.2.2.2.2.1, .ref (A (b + 5)), .ref (A (b + 6)), .int x.2.2.2.2.2.2.2.2.2.1, .int x.2.2.2.2.2.2.2.2.2.2.1, .int x.2.2.2.2.2.2.2.2.2.2.2]))], [(A (b + 1), .inl (gI g, 268, .inl x.1))], [(A (b + 2), .inl (gI g, 1340, .inl x.2.1))], [(A (b + 3), .inl (gI g, 268, .inl x.2.2.2.1))], [(A (b + 4), .inl (gC g, 70, .inl x.2.2.2.2.2.1))], [(A (b + 5), .inl (gI g, 3, .inl x.2.2.2.2.2.2.2.1))], [(A (b + 6), .inl (gI g, 144, .inl x.2.2.2.2.2.2.2.2.1))]] → ∀ ls : Array Slot, lv_has ls 5 [(0, .ref (A b)), (1, .int p1)] → W p l e R s m args below meth c H locs 0 0 Q (F0 m 37 ls [.int w37]) := by
    intro w37 h H locs hW ls hl
    unfold f_X6_lossOf_j37 at h
    refine lv_istore (lv' := [(4, .int w37), (0, .ref (A b)), (1, .int p1)]) hx hb dX6_lossOf_37 hl (by decide) rfl (fun ls hl => ?_)
    refine lv_iload hx hb dX6_lossOf_39 (lv_at hl 0 rfl) ?_
    refine lv_if_eq (tgt := 57) hx hb dX6_lossOf_41 (by decide) (fun e4 => ?_) (fun e4 => ?_)
    · replace h := q_t e4 h
      refine lv_aload_n hx hb dX6_lossOf_57 rfl (lv_at hl 1 rfl) ?_
      refine r_get C hW (K := RX6) (T := TX6) (N := 12) (v := .ref (A (b + 1))) 0 0 0 rfl rfl rfl inX6_lossOf_X6 (by decide) (List.mem_of_getElem? (i := 1) rfl) rfl rfl dX6_lossOf_58 ?_
      refine lv_iconst (v := 2) hx hb dX6_lossOf_61 (by decide) ?_
      refine lv_iload_n hx hb dX6_lossOf_62 rfl (lv_at hl 2 rfl) ?_
      refine lv_iadd hx hb dX6_lossOf_63 ?_
      obtain ⟨g5, h⟩ := q_g h
      refine r_iald C hW 1 0 rfl rfl g5 dX6_lossOf_64 ?_
      cases h
      exact E _ _ _ _ _ hW rfl rfl dX6_lossOf_65
    · replace h := q_f e4 h
      refine lv_aload_n hx hb dX6_lossOf_44 rfl (lv_at hl 1 rfl) ?_
      refine r_get C hW (K := RX6) (T := TX6) (N := 12) (v := .ref (A (b + 1))) 0 0 0 rfl rfl rfl inX6_lossOf_X6 (by decide) (List.mem_of_getElem? (i := 1) rfl) rfl rfl dX6_lossOf_45 ?_
      refine lv_iconst (v := 2) hx hb dX6_lossOf_48 (by decide) ?_
      refine lv_iload_n hx hb dX6_lossOf_49 rfl (lv_at hl 2 rfl) ?_
      refine lv_iadd hx hb dX6_lossOf_50 ?_
      obtain ⟨g6, h⟩ := q_g h
      refine r_iald C hW 1 0 rfl rfl g6 dX6_lossOf_51 ?_
      refine lv_iconst (v := 2) hx hb dX6_lossOf_52 (by decide) ?_
      have g7 : ¬ (2 : Int32) = 0 := by decide
      refine lv_idiv hx hb dX6_lossOf_53 g7 ?_
      refine lv_goto (tgt := 65) hx hb dX6_lossOf_54 (by decide) ?_
      cases h
      exact E _ _ _ _ _ hW rfl rfl dX6_lossOf_65
  have J36 : ∀ (w36 : Unit), f_X6_lossOf_j36 x p1 w36 = some r → ∀ (H : Heap) (locs : List Loc), WdG g Z s.heap H locs [[(A b, .inr (6, [.ref (A (b + 1)), .ref (A (b + 2)), .int x.2.2.1, .ref (A (b + 3)), .int x.2.2.2.2.1, .ref (A (b + 4)), .int x.2.2.2.2.2.2.1, .ref (A (b + 5)), .ref (A (b + 6)), .int x.2.2.2.2.2.2.2.2.2.1, .int x.2.2.2.2.2.2.2.2.2.2.1, .int x.2.2.2.2.2.2.2.2.2.2.2]))], [(A (b + 1), .inl (gI g, 268, .inl x.1))], [(A (b + 2), .inl (gI g, 1340, .inl x.2.1))], [(A (b + 3), .inl (gI g, 268, .inl x.2.2.2.1))], [(A (b + 4), .inl (gC g, 70, .inl x.2.2.2.2.2.1))], [(A (b + 5), .inl (gI g, 3, .inl x.2.2.2.2.2.2.2.1))], [(A (b + 6), .inl (gI g, 144, .inl x.2.2.2.2.2.2.2.2.1))]] → ∀ ls : Array Slot, lv_has ls 5 [(0, .ref (A b)), (1, .int p1)] → W p l e R s m args below meth c H locs 0 0 Q (F0 m 36 ls []) := by
    intro w36 h H locs hW ls hl
    unfold f_X6_lossOf_j36 at h
    refine lv_iconst (v := 0) hx hb dX6_lossOf_36 (by decide) ?_
    exact J37 0 h _ _ hW _ (lv_sub hl [0, 1] rfl)
  have J23 : ∀ (w23 : Unit), f_X6_lossOf_j23 x p1 p2 w23 = some r → ∀ (H : Heap) (locs : List Loc), WdG g Z s.heap H locs [[(A b, .inr (6, [.ref (A (b + 1)), .ref (A (b + 2)), .int x.2.2.1, .ref (A (b + 3)), .int x.2.2.2.2.1, .ref (A (b + 4)), .int x.2.2.2.2.2.2.1, .ref (A (b + 5)), .ref (A (b + 6)), .int x.2.2.2.2.2.2.2.2.2.1, .int x.2.2.2.2.2.2.2.2.2.2.1, .int x.2.2.2.2.2.2.2.2.2.2.2]))], [(A (b + 1), .inl (gI g, 268, .inl x.1))], [(A (b + 2), .inl (gI g, 1340, .inl x.2.1))], [(A (b + 3), .inl (gI g, 268, .inl x.2.2.2.1))], [(A (b + 4), .inl (gC g, 70, .inl x.2.2.2.2.2.1))], [(A (b + 5), .inl (gI g, 3, .inl x.2.2.2.2.2.2.2.1))], [(A (b + 6), .inl (gI g, 144, .inl x.2.2.2.2.2.2.2.2.1))]] → ∀ ls : Array Slot, lv_has ls 5 [(0, .ref (A b)), (1, .int p1), (2, .int p2)] → W p l e R s m args below meth c H locs 0 0 Q (F0 m 23 ls []) := by
    intro w23 h H locs hW ls hl
    unfold f_X6_lossOf_j23 at h
    refine lv_aload_n hx hb dX6_lossOf_23 rfl (lv_at hl 0 rfl) ?_
    refine lv_iload_n hx hb dX6_lossOf_24 rfl (lv_at hl 1 rfl) ?_
    refine lv_iload_n hx hb dX6_lossOf_25 rfl (lv_at hl 2 rfl) ?_
    obtain ⟨t8, h9, h⟩ := q_b h
    refine r_cVi C hW (nA := 2) (As := [.int p1, .int p2]) (rest := []) (c_X6_isRead l g A b x p1 p2 _ h9) gX6_lossOf_X6_isRead rfl ⟨rfl, wo_X6_isRead⟩ (rmk hR rfl rfl) rfl rfl rfl rfl hl.1 (Nat.le_of_ble_eq_true rfl) rz dX6_lossOf_26 (n := 7) (is := [0, 1, 2, 3, 4, 5, 6]) (rs := []) (bs' := [[(A b, .inr (6, [.ref (A (b + 1)), .ref (A (b + 2)), .int x.2.2.1, .ref (A (b + 3)), .int x.2.2.2.2.1, .ref (A (b + 4)), .int x.2.2.2.2.2.2.1, .ref (A (b + 5)), .ref (A (b + 6)), .int x.2.2.2.2.2.2.2.2.2.1, .int x.2.2.2.2.2.2.2.2.2.2.1, .int x.2.2.2.2.2.2.2.2.2.2.2]))], [(A (b + 1), .inl (gI g, 268, .inl x.1))], [(A (b + 2), .inl (gI g, 1340, .inl x.2.1))], [(A (b + 3), .inl (gI g, 268, .inl x.2.2.2.1))], [(A (b + 4), .inl (gC g, 70, .inl x.2.2.2.2.2.1))], [(A (b + 5), .inl (gI g, 3, .inl x.2.2.2.2.2.2.2.1))], [(A (b + 6), .inl (gI g, 144, .inl x.2.2.2.2.2.2.2.2.1))]]) rfl rfl pm_39 rfl rfl rfl (fun H locs hW => ?_)
    refine lv_if_eq (tgt := 36) hx hb dX6_lossOf_29 (by decide) (fun e10 => ?_) (fun e10 => ?_)
    · replace h := q_t e10 h
      exact J36 () h _ _ hW _ (lv_sub hl [0, 1] rfl)
    · replace h := q_f e10 h
      refine lv_iconst (v := 1) hx hb dX6_lossOf_32 (by decide) ?_
      refine lv_goto (tgt := 37) hx hb dX6_lossOf_33 (by decide) ?_
      exact J37 1 h _ _ hW _ (lv_sub hl [0, 1] rfl)
  refine lv_icmp_eq (tgt := 23) hx hb dX6_lossOf_15 (by decide) (fun e11 => ?_) (fun e11 => ?_)
  · replace h := q_t e11 h
    exact J23 () h _ _ hW _ (lv_sub hl [1, 2, 3] rfl)
  · replace h := q_f e11 h
    refine lv_iload_n hx hb dX6_lossOf_18 rfl (lv_at hl 0 rfl) ?_
    refine lv_iconst (v := 2) hx hb dX6_lossOf_19 (by decide) ?_
    refine lv_icmp_ne (tgt := 36) hx hb dX6_lossOf_20 (by decide) (fun e12 => ?_) (fun e12 => ?_)
    · replace h := q_f e12 h
      exact J36 () h _ _ hW _ (lv_sub hl [1, 2] rfl)
    · replace h := q_t e12 h
      exact J23 () h _ _ hW _ (lv_sub hl [1, 2, 3] rfl)
