def f_X6_erase_j50 (t4 : TX6s) (t6 : Int32) (w34 : Int32) (w50 : Int32) : Option (Int32 × TX6s) :=
(f_X6_signs t4 t6 0).bind fun t10 =>
(f_X6_signs t10.2 (t6 + 2) 0).bind fun t12 =>
some ((w34 + w50), t12.2)
def f_X6_erase_j34 (t4 : TX6s) (t6 : Int32) (w34 : Int32) : Option (Int32 × TX6s) :=
if (t6 + 2) < 0 ∨ 268 ≤ (t6 + 2).toNatClampNeg then none else
if (t4.1 (t6 + 2).toNatClampNeg) ≤ 0 then (
f_X6_erase_j50 t4 t6 w34 0)
else (
f_X6_erase_j50 t4 t6 w34 1)
def f_X6_erase (x : TX6s) (p1 : Int32) (p2 : Int32) : Option (Int32 × TX6s) :=
(f_X6_isCell p1 p2).bind fun t1 =>
if t1 = 0 then (
some ((-1), x))
else (
(f_X6_record x).bind fun t4 =>
(f_X6_cellAt p1 p2).bind fun t6 =>
if t6 < 0 ∨ 268 ≤ (t6).toNatClampNeg then none else
if (t4.1 (t6).toNatClampNeg) ≤ 0 then (
f_X6_erase_j34 t4 t6 0)
else (
f_X6_erase_j34 t4 t6 1))
theorem wo_X6_erase : wordsOk yX6_erase 2 := by decide +kernel
theorem inX6_erase_X6 : ∀ w ∈ wsX60, w ∈ wsX6_erase := fun _ h => List.mem_cons_of_mem _ (List.mem_append_right _ h)
set_option maxHeartbeats 4000000 in
set_option maxRecDepth 100000 in
theorem c_X6_erase (l : Launch) (g : GG) (A : Nat → Nat) (b : Nat) (x : TX6s) (p1 : Int32) (p2 : Int32) (r : Int32) (x' : TX6s) (h : f_X6_erase x p1 p2 = some (r, x')) : CI l yX6_erase wsX6_erase 2 43 g [.ref (A b), .int p1, .int p2] (wX6 g A b x) r (wX6 g A b x') := by
  refine CI.mk (own := RX6) (by decide) rfl rfl (Nat.le_of_ble_eq_true rfl) ?_
  intro p e R s m args below meth c Z Q C E hR H hW ls hl
  have hx := C.1.1
  have hb := C.1.2.1
  have hown := C.1.2.2.2.1
  replace hW : WdG g Z s.heap H [] [[(A b, .inr (6, [.ref (A (b + 1)), .ref (A (b + 2)), .int x.2.2.1, .ref (A (b + 3)), .int x.2.2.2.2.1, .ref (A (b + 4)), .int x.2.2.2.2.2.2.1, .ref (A (b + 5)), .ref (A (b + 6)), .int x.2.2.2.2.2.2.2.2.2.1, .int x.2.2.2.2.2.2.2.2.2.2.1, .int x.2.2.2.2.2.2.2.2.2.2.2]))], [(A (b + 1), .inl (gI g, 268, .inl x.1))], [(A (b + 2), .inl (gI g, 1340, .inl x.2.1))], [(A (b + 3), .inl (gI g, 268, .inl x.2.2.2.1))], [(A (b + 4), .inl (gC g, 70, .inl x.2.2.2.2.2.1))], [(A (b + 5), .inl (gI g, 3, .inl x.2.2.2.2.2.2.2.1))], [(A (b + 6), .inl (gI g, 144, .inl x.2.2.2.2.2.2.2.2.1))]] := hW.re rfl
  replace hl : lv_has ls 5 [(0, .ref (A b)), (1, .int p1), (2, .int p2)] := hl
  unfold f_X6_erase at h
  refine lv_iload_n hx hb dX6_erase_0 rfl (lv_at hl 1 rfl) ?_
  refine lv_iload_n hx hb dX6_erase_1 rfl (lv_at hl 2 rfl) ?_
  obtain ⟨t1, h2, h⟩ := q_b h
  refine r_cSi C hW (nA := 2) (As := [.int p1, .int p2]) (rest := []) (c_X6_isCell l g p1 p2 _ h2) gX6_erase_X6_isCell rfl wo_X6_isCell (rmk hR rfl rfl) rfl rfl hl.1 (Nat.le_of_ble_eq_true rfl) rz dX6_erase_2 (n := 7) (is := []) (rs := [0, 1, 2, 3, 4, 5, 6]) (bs' := [[(A b, .inr (6, [.ref (A (b + 1)), .ref (A (b + 2)), .int x.2.2.1, .ref (A (b + 3)), .int x.2.2.2.2.1, .ref (A (b + 4)), .int x.2.2.2.2.2.2.1, .ref (A (b + 5)), .ref (A (b + 6)), .int x.2.2.2.2.2.2.2.2.2.1, .int x.2.2.2.2.2.2.2.2.2.2.1, .int x.2.2.2.2.2.2.2.2.2.2.2]))], [(A (b + 1), .inl (gI g, 268, .inl x.1))], [(A (b + 2), .inl (gI g, 1340, .inl x.2.1))], [(A (b + 3), .inl (gI g, 268, .inl x.2.2.2.1))], [(A (b + 4), .inl (gC g, 70, .inl x.2.2.2.2.2.1))], [(A (b + 5), .inl (gI g, 3, .inl x.2.2.2.2.2.2.2.1))], [(A (b + 6), .inl (gI g, 144, .inl x.2.2.2.2.2.2.2.2.1))]]) rfl rfl pm_38 rfl rfl rfl (fun H locs hW => ?_)
  refine lv_if_ne (tgt := 10) hx hb dX6_erase_5 (by decide) (fun e3 => ?_) (fun e3 => ?_)
  · replace h := q_f e3 h
    refine lv_aload_n hx hb dX6_erase_10 rfl (lv_at hl 0 rfl) ?_
    obtain ⟨t4, h5, h⟩ := q_b h
    refine r_cVv C hW (nA := 0) (As := []) (rest := []) (c_X6_record l g A b x _ h5) gX6_erase_X6_record rfl ⟨rfl, wo_X6_record⟩ (rmk hR rfl rfl) rfl rfl rfl rfl hl.1 (Nat.le_of_ble_eq_true rfl) rz dX6_erase_11 (n := 7) (is := [0, 1, 2, 3, 4, 5, 6]) (rs := []) (bs' := [[(A b, .inr (6, [.ref (A (b + 1)), .ref (A (b + 2)), .int t4.2.2.1, .ref (A (b + 3)), .int t4.2.2.2.2.1, .ref (A (b + 4)), .int t4.2.2.2.2.2.2.1, .ref (A (b + 5)), .ref (A (b + 6)), .int t4.2.2.2.2.2.2.2.2.2.1, .int t4.2.2.2.2.2.2.2.2.2.2.1, .int t4.2.2.2.2.2.2.2.2.2.2.2]))], [(A (b + 1), .inl (gI g, 268, .inl t4.1))], [(A (b + 2), .inl (gI g, 1340, .inl t4.2.1))], [(A (b + 3), .inl (gI g, 268, .inl t4.2.2.2.1))], [(A (b + 4), .inl (gC g, 70, .inl t4.2.2.2.2.2.1))], [(A (b + 5), .inl (gI g, 3, .inl t4.2.2.2.2.2.2.2.1))], [(A (b + 6), .inl (gI g, 144, .inl t4.2.2.2.2.2.2.2.2.1))]]) rfl rfl pm_39 rfl rfl rfl (fun H locs hW => ?_)
    refine lv_iload_n hx hb dX6_erase_14 rfl (lv_at hl 1 rfl) ?_
    refine lv_iload_n hx hb dX6_erase_15 rfl (lv_at hl 2 rfl) ?_
    obtain ⟨t6, h7, h⟩ := q_b h
    refine r_cSi C hW (nA := 2) (As := [.int p1, .int p2]) (rest := []) (c_X6_cellAt l g p1 p2 _ h7) gX6_erase_X6_cellAt rfl wo_X6_cellAt (rmk hR rfl rfl) rfl rfl hl.1 (Nat.le_of_ble_eq_true rfl) rz dX6_erase_16 (n := 7) (is := []) (rs := [0, 1, 2, 3, 4, 5, 6]) (bs' := [[(A b, .inr (6, [.ref (A (b + 1)), .ref (A (b + 2)), .int t4.2.2.1, .ref (A (b + 3)), .int t4.2.2.2.2.1, .ref (A (b + 4)), .int t4.2.2.2.2.2.2.1, .ref (A (b + 5)), .ref (A (b + 6)), .int t4.2.2.2.2.2.2.2.2.2.1, .int t4.2.2.2.2.2.2.2.2.2.2.1, .int t4.2.2.2.2.2.2.2.2.2.2.2]))], [(A (b + 1), .inl (gI g, 268, .inl t4.1))], [(A (b + 2), .inl (gI g, 1340, .inl t4.2.1))], [(A (b + 3), .inl (gI g, 268, .inl t4.2.2.2.1))], [(A (b + 4), .inl (gC g, 70, .inl t4.2.2.2.2.2.1))], [(A (b + 5), .inl (gI g, 3, .inl t4.2.2.2.2.2.2.2.1))], [(A (b + 6), .inl (gI g, 144, .inl t4.2.2.2.2.2.2.2.2.1))]]) rfl rfl pm_38 rfl rfl rfl (fun H locs hW => ?_)
    refine lv_istore_n (lv' := [(3, .int t6), (0, .ref (A b)), (1, .int p1), (2, .int p2)]) hx hb dX6_erase_19 rfl hl (by decide) rfl (fun ls hl => ?_)
    refine lv_aload_n hx hb dX6_erase_20 rfl (lv_at hl 1 rfl) ?_
    refine r_get C hW (K := RX6) (T := TX6) (N := 12) (v := .ref (A (b + 1))) 0 0 0 rfl rfl rfl inX6_erase_X6 (by decide) (List.mem_of_getElem? (i := 1) rfl) rfl rfl dX6_erase_21 ?_
    refine lv_iload_n hx hb dX6_erase_24 rfl (lv_at hl 0 rfl) ?_
    obtain ⟨g8, h⟩ := q_g h
    refine r_iald C hW 1 0 rfl rfl g8 dX6_erase_25 ?_
    have J34 : ∀ (w34 : Int32), f_X6_erase_j34 t4 t6 w34 = some (r, x') → ∀ (H : Heap) (locs : List Loc), WdG g Z s.heap H locs [[(A b, .inr (6, [.ref (A (b + 1)), .ref (A (b + 2)), .int t4.2.2.1, .ref (A (b + 3)), .int t4.2.2.2.2.1, .ref (A (b + 4)), .int t4.2.2.2.2.2.2.1, .ref (A (b + 5)), .ref (A (b + 6)), .int t4.2.2.2.2.2.2.2.2.2.1, .int t4.2.2.2.2.2.2.2.2.2.2.1, .int t4.2.2.2.2.2.2.2.2.2.2.2]))], [(A (b + 1), .inl (gI g, 268, .inl t4.1))], [(A (b + 2), .inl (gI g, 1340, .inl t4.2.1))], [(A (b + 3), .inl (gI g, 268, .inl t4.2.2.2.1))], [(A (b + 4), .inl (gC g, 70, .inl t4.2.2.2.2.2.1))], [(A (b + 5), .inl (gI g, 3, .inl t4.2.2.2.2.2.2.2.1))], [(A (b + 6), .inl (gI g, 144, .inl t4.2.2.2.2.2.2.2.2.1))]] → ∀ ls : Array Slot, lv_has ls 5 [(0, .ref (A b)), (3, .int t6)] → W p l e R s m args below meth c H locs 0 0 Q (F0 m 34 ls [.int w34]) := by
      intro w34 h H locs hW ls hl
      unfold f_X6_erase_j34 at h
      refine lv_aload_n hx hb dX6_erase_34 rfl (lv_at hl 0 rfl) ?_
      refine r_get C hW (K := RX6) (T := TX6) (N := 12) (v := .ref (A (b + 1))) 0 0 0 rfl rfl rfl inX6_erase_X6 (by decide) (List.mem_of_getElem? (i := 1) rfl) rfl rfl dX6_erase_35 ?_
      refine lv_iload_n hx hb dX6_erase_38 rfl (lv_at hl 1 rfl) ?_
      refine lv_iconst (v := 2) hx hb dX6_erase_39 (by decide) ?_
      refine lv_iadd hx hb dX6_erase_40 ?_
      obtain ⟨g9, h⟩ := q_g h
      refine r_iald C hW 1 0 rfl rfl g9 dX6_erase_41 ?_
      have J50 : ∀ (w50 : Int32), f_X6_erase_j50 t4 t6 w34 w50 = some (r, x') → ∀ (H : Heap) (locs : List Loc), WdG g Z s.heap H locs [[(A b, .inr (6, [.ref (A (b + 1)), .ref (A (b + 2)), .int t4.2.2.1, .ref (A (b + 3)), .int t4.2.2.2.2.1, .ref (A (b + 4)), .int t4.2.2.2.2.2.2.1, .ref (A (b + 5)), .ref (A (b + 6)), .int t4.2.2.2.2.2.2.2.2.2.1, .int t4.2.2.2.2.2.2.2.2.2.2.1, .int t4.2.2.2.2.2.2.2.2.2.2.2]))], [(A (b + 1), .inl (gI g, 268, .inl t4.1))], [(A (b + 2), .inl (gI g, 1340, .inl t4.2.1))], [(A (b + 3), .inl (gI g, 268, .inl t4.2.2.2.1))], [(A (b + 4), .inl (gC g, 70, .inl t4.2.2.2.2.2.1))], [(A (b + 5), .inl (gI g, 3, .inl t4.2.2.2.2.2.2.2.1))], [(A (b + 6), .inl (gI g, 144, .inl t4.2.2.2.2.2.2.2.2.1))]] → ∀ ls : Array Slot, lv_has ls 5 [(0, .ref (A b)), (3, .int t6)] → W p l e R s m args below meth c H locs 0 0 Q (F0 m 50 ls [.int w50, .int w34]) := by
        intro w50 h H locs hW ls hl
        unfold f_X6_erase_j50 at h
        refine lv_iadd hx hb dX6_erase_50 ?_
        refine lv_istore (lv' := [(4, .int (w34 + w50)), (0, .ref (A b)), (3, .int t6)]) hx hb dX6_erase_51 hl (by decide) rfl (fun ls hl => ?_)
        refine lv_aload_n hx hb dX6_erase_53 rfl (lv_at hl 1 rfl) ?_
        refine lv_iload_n hx hb dX6_erase_54 rfl (lv_at hl 2 rfl) ?_
        refine lv_iconst (v := 0) hx hb dX6_erase_55 (by decide) ?_
        obtain ⟨t10, h11, h⟩ := q_b h
        refine r_cVi C hW (nA := 2) (As := [.int t6, .int 0]) (rest := []) (c_X6_signs l g A b t4 t6 0 _ _ h11) gX6_erase_X6_signs rfl ⟨rfl, wo_X6_signs⟩ (rmk hR rfl rfl) rfl rfl rfl rfl hl.1 (Nat.le_of_ble_eq_true rfl) rz dX6_erase_56 (n := 7) (is := [0, 1, 2, 3, 4, 5, 6]) (rs := []) (bs' := [[(A b, .inr (6, [.ref (A (b + 1)), .ref (A (b + 2)), .int t10.2.2.2.1, .ref (A (b + 3)), .int t10.2.2.2.2.2.1, .ref (A (b + 4)), .int t10.2.2.2.2.2.2.2.1, .ref (A (b + 5)), .ref (A (b + 6)), .int t10.2.2.2.2.2.2.2.2.2.2.1, .int t10.2.2.2.2.2.2.2.2.2.2.2.1, .int t10.2.2.2.2.2.2.2.2.2.2.2.2]))], [(A (b + 1), .inl (gI g, 268, .inl t10.2.1))], [(A (b + 2), .inl (gI g, 1340, .inl t10.2.2.1))], [(A (b + 3), .inl (gI g, 268, .inl t10.2.2.2.2.1))], [(A (b + 4), .inl (gC g, 70, .inl t10.2.2.2.2.2.2.1))], [(A (b + 5), .inl (gI g, 3, .inl t10.2.2.2.2.2.2.2.2.1))], [(A (b + 6), .inl (gI g, 144, .inl t10.2.2.2.2.2.2.2.2.2.1))]]) rfl rfl pm_39 rfl rfl rfl (fun H locs hW => ?_)
        refine lv_pop hx hb dX6_erase_59 rfl ?_
        refine lv_aload_n hx hb dX6_erase_60 rfl (lv_at hl 1 rfl) ?_
        refine lv_iload_n hx hb dX6_erase_61 rfl (lv_at hl 2 rfl) ?_
        refine lv_iconst (v := 2) hx hb dX6_erase_62 (by decide) ?_
        refine lv_iadd hx hb dX6_erase_63 ?_
        refine lv_iconst (v := 0) hx hb dX6_erase_64 (by decide) ?_
        obtain ⟨t12, h13, h⟩ := q_b h
        refine r_cVi C hW (nA := 2) (As := [.int (t6 + 2), .int 0]) (rest := []) (c_X6_signs l g A b t10.2 (t6 + 2) 0 _ _ h13) gX6_erase_X6_signs rfl ⟨rfl, wo_X6_signs⟩ (rmk hR rfl rfl) rfl rfl rfl rfl hl.1 (Nat.le_of_ble_eq_true rfl) rz dX6_erase_65 (n := 7) (is := [0, 1, 2, 3, 4, 5, 6]) (rs := []) (bs' := [[(A b, .inr (6, [.ref (A (b + 1)), .ref (A (b + 2)), .int t12.2.2.2.1, .ref (A (b + 3)), .int t12.2.2.2.2.2.1, .ref (A (b + 4)), .int t12.2.2.2.2.2.2.2.1, .ref (A (b + 5)), .ref (A (b + 6)), .int t12.2.2.2.2.2.2.2.2.2.2.1, .int t12.2.2.2.2.2.2.2.2.2.2.2.1, .int t12.2.2.2.2.2.2.2.2.2.2.2.2]))], [(A (b + 1), .inl (gI g, 268, .inl t12.2.1))], [(A (b + 2), .inl (gI g, 1340, .inl t12.2.2.1))], [(A (b + 3), .inl (gI g, 268, .inl t12.2.2.2.2.1))], [(A (b + 4), .inl (gC g, 70, .inl t12.2.2.2.2.2.2.1))], [(A (b + 5), .inl (gI g, 3, .inl t12.2.2.2.2.2.2.2.2.1))], [(A (b + 6), .inl (gI g, 144, .inl t12.2.2.2.2.2.2.2.2.2.1))]]) rfl rfl pm_39 rfl rfl rfl (fun H locs hW => ?_)
        refine lv_pop hx hb dX6_erase_68 rfl ?_
        refine lv_iload hx hb dX6_erase_69 (lv_at hl 0 rfl) ?_
        cases h
        exact E _ _ _ _ _ hW rfl rfl dX6_erase_71
      refine lv_if_le (tgt := 49) hx hb dX6_erase_42 (by decide) (fun e14 => ?_) (fun e14 => ?_)
      · replace h := q_t e14 h
        refine lv_iconst (v := 0) hx hb dX6_erase_49 (by decide) ?_
        exact J50 0 h _ _ hW _ (lv_sub hl [0, 1] rfl)
      · replace h := q_f e14 h
        refine lv_iconst (v := 1) hx hb dX6_erase_45 (by decide) ?_
        refine lv_goto (tgt := 50) hx hb dX6_erase_46 (by decide) ?_
        exact J50 1 h _ _ hW _ (lv_sub hl [0, 1] rfl)
    refine lv_if_le (tgt := 33) hx hb dX6_erase_26 (by decide) (fun e15 => ?_) (fun e15 => ?_)
    · replace h := q_t e15 h
      refine lv_iconst (v := 0) hx hb dX6_erase_33 (by decide) ?_
      exact J34 0 h _ _ hW _ (lv_sub hl [1, 0] rfl)
    · replace h := q_f e15 h
      refine lv_iconst (v := 1) hx hb dX6_erase_29 (by decide) ?_
      refine lv_goto (tgt := 34) hx hb dX6_erase_30 (by decide) ?_
      exact J34 1 h _ _ hW _ (lv_sub hl [1, 0] rfl)
  · replace h := q_t e3 h
    refine lv_iconst (v := (-1)) hx hb dX6_erase_8 (by decide) ?_
    cases h
    exact E _ _ _ _ _ hW rfl rfl dX6_erase_9
def f_X6_set_j24 (x : TX6s) (p1 : Int32) (p2 : Int32) (w24 : Int32) : Option (Int32 × TX6s) :=
(f_X6_in p2 1 w24).bind fun t4 =>
if t4 = 0 then (
some ((-2), x))
else (
(f_X6_record x).bind fun t7 =>
if p1 < 0 ∨ 268 ≤ (p1).toNatClampNeg then none else
if p1 < 0 ∨ 268 ≤ (p1).toNatClampNeg then none else
some ((t7.1 (p1).toNatClampNeg), ((upd t7.1 (p1).toNatClampNeg p2), t7.2.1, t7.2.2.1, t7.2.2.2.1, t7.2.2.2.2.1, t7.2.2.2.2.2.1, t7.2.2.2.2.2.2.1, t7.2.2.2.2.2.2.2.1, t7.2.2.2.2.2.2.2.2.1, t7.2.2.2.2.2.2.2.2.2.1, t7.2.2.2.2.2.2.2.2.2.2.1, t7.2.2.2.2.2.2.2.2.2.2.2)))
def f_X6_set (x : TX6s) (p1 : Int32) (p2 : Int32) : Option (Int32 × TX6s) :=
(f_X6_in p1 0 1).bind fun t1 =>
if t1 = 0 then (
some ((-1), x))
else (
if p1 = 0 then (
f_X6_set_j24 x p1 p2 100)
else (
f_X6_set_j24 x p1 p2 40))
theorem wo_X6_set : wordsOk yX6_set 2 := by decide +kernel
theorem inX6_set_X6 : ∀ w ∈ wsX60, w ∈ wsX6_set := fun _ h => List.mem_cons_of_mem _ (List.mem_append_right _ h)
set_option maxHeartbeats 4000000 in
set_option maxRecDepth 100000 in
theorem c_X6_set (l : Launch) (g : GG) (A : Nat → Nat) (b : Nat) (x : TX6s) (p1 : Int32) (p2 : Int32) (r : Int32) (x' : TX6s) (h : f_X6_set x p1 p2 = some (r, x')) : CI l yX6_set wsX6_set 1 22 g [.ref (A b), .int p1, .int p2] (wX6 g A b x) r (wX6 g A b x') := by
  refine CI.mk (own := RX6) (by decide) rfl rfl (Nat.le_of_ble_eq_true rfl) ?_
  intro p e R s m args below meth c Z Q C E hR H hW ls hl
  have hx := C.1.1
  have hb := C.1.2.1
  have hown := C.1.2.2.2.1
  replace hW : WdG g Z s.heap H [] [[(A b, .inr (6, [.ref (A (b + 1)), .ref (A (b + 2)), .int x.2.2.1, .ref (A (b + 3)), .int x.2.2.2.2.1, .ref (A (b + 4)), .int x.2.2.2.2.2.2.1, .ref (A (b + 5)), .ref (A (b + 6)), .int x.2.2.2.2.2.2.2.2.2.1, .int x.2.2.2.2.2.2.2.2.2.2.1, .int x.2.2.2.2.2.2.2.2.2.2.2]))], [(A (b + 1), .inl (gI g, 268, .inl x.1))], [(A (b + 2), .inl (gI g, 1340, .inl x.2.1))], [(A (b + 3), .inl (gI g, 268, .inl x.2.2.2.1))], [(A (b + 4), .inl (gC g, 70, .inl x.2.2.2.2.2.1))], [(A (b + 5), .inl (gI g, 3, .inl x.2.2.2.2.2.2.2.1))], [(A (b + 6), .inl (gI g, 144, .inl x.2.2.2.2.2.2.2.2.1))]] := hW.re rfl
  replace hl : lv_has ls 4 [(0, .ref (A b)), (1, .int p1), (2, .int p2)] := hl
  unfold f_X6_set at h
  refine lv_iload_n hx hb dX6_set_0 rfl (lv_at hl 1 rfl) ?_
  refine lv_iconst (v := 0) hx hb dX6_set_1 (by decide) ?_
  refine lv_iconst (v := 1) hx hb dX6_set_2 (by decide) ?_
  obtain ⟨t1, h2, h⟩ := q_b h
  refine r_cSi C hW (nA := 3) (As := [.int p1, .int 0, .int 1]) (rest := []) (c_X6_in l g p1 0 1 _ h2) gX6_set_X6_in rfl wo_X6_in (rmk hR rfl rfl) rfl rfl hl.1 (Nat.le_of_ble_eq_true rfl) rz dX6_set_3 (n := 7) (is := []) (rs := [0, 1, 2, 3, 4, 5, 6]) (bs' := [[(A b, .inr (6, [.ref (A (b + 1)), .ref (A (b + 2)), .int x.2.2.1, .ref (A (b + 3)), .int x.2.2.2.2.1, .ref (A (b + 4)), .int x.2.2.2.2.2.2.1, .ref (A (b + 5)), .ref (A (b + 6)), .int x.2.2.2.2.2.2.2.2.2.1, .int x.2.2.2.2.2.2.2.2.2.2.1, .int x.2.2.2.2.2.2.2.2.2.2.2]))], [(A (b + 1), .inl (gI g, 268, .inl x.1))], [(A (b + 2), .inl (gI g, 1340, .inl x.2.1))], [(A (b + 3), .inl (gI g, 268, .inl x.2.2.2.1))], [(A (b + 4), .inl (gC g, 70, .inl x.2.2.2.2.2.1))], [(A (b + 5), .inl (gI g, 3, .inl x.2.2.2.2.2.2.2.1))], [(A (b + 6), .inl (gI g, 144, .inl x.2.2.2.2.2.2.2.2.1))]]) rfl rfl pm_38 rfl rfl rfl (fun H locs hW => ?_)
  refine lv_if_ne (tgt := 11) hx hb dX6_set_6 (by decide) (fun e3 => ?_) (fun e3 => ?_)
  · replace h := q_f e3 h
    refine lv_iload_n hx hb dX6_set_11 rfl (lv_at hl 2 rfl) ?_
    refine lv_iconst (v := 1) hx hb dX6_set_12 (by decide) ?_
    refine lv_iload_n hx hb dX6_set_13 rfl (lv_at hl 1 rfl) ?_
    have J24 : ∀ (w24 : Int32), f_X6_set_j24 x p1 p2 w24 = some (r, x') → ∀ (H : Heap) (locs : List Loc), WdG g Z s.heap H locs [[(A b, .inr (6, [.ref (A (b + 1)), .ref (A (b + 2)), .int x.2.2.1, .ref (A (b + 3)), .int x.2.2.2.2.1, .ref (A (b + 4)), .int x.2.2.2.2.2.2.1, .ref (A (b + 5)), .ref (A (b + 6)), .int x.2.2.2.2.2.2.2.2.2.1, .int x.2.2.2.2.2.2.2.2.2.2.1, .int x.2.2.2.2.2.2.2.2.2.2.2]))], [(A (b + 1), .inl (gI g, 268, .inl x.1))], [(A (b + 2), .inl (gI g, 1340, .inl x.2.1))], [(A (b + 3), .inl (gI g, 268, .inl x.2.2.2.1))], [(A (b + 4), .inl (gC g, 70, .inl x.2.2.2.2.2.1))], [(A (b + 5), .inl (gI g, 3, .inl x.2.2.2.2.2.2.2.1))], [(A (b + 6), .inl (gI g, 144, .inl x.2.2.2.2.2.2.2.2.1))]] → ∀ ls : Array Slot, lv_has ls 4 [(0, .ref (A b)), (1, .int p1), (2, .int p2)] → W p l e R s m args below meth c H locs 0 0 Q (F0 m 24 ls [.int w24, .int 1, .int p2]) := by
      intro w24 h H locs hW ls hl
      unfold f_X6_set_j24 at h
      obtain ⟨t4, h5, h⟩ := q_b h
      refine r_cSi C hW (nA := 3) (As := [.int p2, .int 1, .int w24]) (rest := []) (c_X6_in l g p2 1 w24 _ h5) gX6_set_X6_in rfl wo_X6_in (rmk hR rfl rfl) rfl rfl hl.1 (Nat.le_of_ble_eq_true rfl) rz dX6_set_24 (n := 7) (is := []) (rs := [0, 1, 2, 3, 4, 5, 6]) (bs' := [[(A b, .inr (6, [.ref (A (b + 1)), .ref (A (b + 2)), .int x.2.2.1, .ref (A (b + 3)), .int x.2.2.2.2.1, .ref (A (b + 4)), .int x.2.2.2.2.2.2.1, .ref (A (b + 5)), .ref (A (b + 6)), .int x.2.2.2.2.2.2.2.2.2.1, .int x.2.2.2.2.2.2.2.2.2.2.1, .int x.2.2.2.2.2.2.2.2.2.2.2]))], [(A (b + 1), .inl (gI g, 268, .inl x.1))], [(A (b + 2), .inl (gI g, 1340, .inl x.2.1))], [(A (b + 3), .inl (gI g, 268, .inl x.2.2.2.1))], [(A (b + 4), .inl (gC g, 70, .inl x.2.2.2.2.2.1))], [(A (b + 5), .inl (gI g, 3, .inl x.2.2.2.2.2.2.2.1))], [(A (b + 6), .inl (gI g, 144, .inl x.2.2.2.2.2.2.2.2.1))]]) rfl rfl pm_38 rfl rfl rfl (fun H locs hW => ?_)
      refine lv_if_ne (tgt := 33) hx hb dX6_set_27 (by decide) (fun e6 => ?_) (fun e6 => ?_)
      · replace h := q_f e6 h
        refine lv_aload_n hx hb dX6_set_33 rfl (lv_at hl 0 rfl) ?_
        obtain ⟨t7, h8, h⟩ := q_b h
        refine r_cVv C hW (nA := 0) (As := []) (rest := []) (c_X6_record l g A b x _ h8) gX6_set_X6_record rfl ⟨rfl, wo_X6_record⟩ (rmk hR rfl rfl) rfl rfl rfl rfl hl.1 (Nat.le_of_ble_eq_true rfl) rz dX6_set_34 (n := 7) (is := [0, 1, 2, 3, 4, 5, 6]) (rs := []) (bs' := [[(A b, .inr (6, [.ref (A (b + 1)), .ref (A (b + 2)), .int t7.2.2.1, .ref (A (b + 3)), .int t7.2.2.2.2.1, .ref (A (b + 4)), .int t7.2.2.2.2.2.2.1, .ref (A (b + 5)), .ref (A (b + 6)), .int t7.2.2.2.2.2.2.2.2.2.1, .int t7.2.2.2.2.2.2.2.2.2.2.1, .int t7.2.2.2.2.2.2.2.2.2.2.2]))], [(A (b + 1), .inl (gI g, 268, .inl t7.1))], [(A (b + 2), .inl (gI g, 1340, .inl t7.2.1))], [(A (b + 3), .inl (gI g, 268, .inl t7.2.2.2.1))], [(A (b + 4), .inl (gC g, 70, .inl t7.2.2.2.2.2.1))], [(A (b + 5), .inl (gI g, 3, .inl t7.2.2.2.2.2.2.2.1))], [(A (b + 6), .inl (gI g, 144, .inl t7.2.2.2.2.2.2.2.2.1))]]) rfl rfl pm_39 rfl rfl rfl (fun H locs hW => ?_)
        refine lv_aload_n hx hb dX6_set_37 rfl (lv_at hl 0 rfl) ?_
        refine r_get C hW (K := RX6) (T := TX6) (N := 12) (v := .ref (A (b + 1))) 0 0 0 rfl rfl rfl inX6_set_X6 (by decide) (List.mem_of_getElem? (i := 1) rfl) rfl rfl dX6_set_38 ?_
        refine lv_iload_n hx hb dX6_set_41 rfl (lv_at hl 1 rfl) ?_
        obtain ⟨g9, h⟩ := q_g h
        refine r_iald C hW 1 0 rfl rfl g9 dX6_set_42 ?_
        refine lv_istore_n (lv' := [(3, .int (t7.1 (p1).toNatClampNeg)), (0, .ref (A b)), (1, .int p1), (2, .int p2)]) hx hb dX6_set_43 rfl hl (by decide) rfl (fun ls hl => ?_)
        refine lv_aload_n hx hb dX6_set_44 rfl (lv_at hl 1 rfl) ?_
        refine r_get C hW (K := RX6) (T := TX6) (N := 12) (v := .ref (A (b + 1))) 0 0 0 rfl rfl rfl inX6_set_X6 (by decide) (List.mem_of_getElem? (i := 1) rfl) rfl rfl dX6_set_45 ?_
        refine lv_iload_n hx hb dX6_set_48 rfl (lv_at hl 2 rfl) ?_
        refine lv_iload_n hx hb dX6_set_49 rfl (lv_at hl 3 rfl) ?_
        obtain ⟨g10, h⟩ := q_g h
        refine r_iast C hW (bs' := [[(A b, .inr (6, [.ref (A (b + 1)), .ref (A (b + 2)), .int t7.2.2.1, .ref (A (b + 3)), .int t7.2.2.2.2.1, .ref (A (b + 4)), .int t7.2.2.2.2.2.2.1, .ref (A (b + 5)), .ref (A (b + 6)), .int t7.2.2.2.2.2.2.2.2.2.1, .int t7.2.2.2.2.2.2.2.2.2.2.1, .int t7.2.2.2.2.2.2.2.2.2.2.2]))], [(A (b + 1), .inl (gI g, 268, .inl (upd t7.1 (p1).toNatClampNeg p2)))], [(A (b + 2), .inl (gI g, 1340, .inl t7.2.1))], [(A (b + 3), .inl (gI g, 268, .inl t7.2.2.2.1))], [(A (b + 4), .inl (gC g, 70, .inl t7.2.2.2.2.2.1))], [(A (b + 5), .inl (gI g, 3, .inl t7.2.2.2.2.2.2.2.1))], [(A (b + 6), .inl (gI g, 144, .inl t7.2.2.2.2.2.2.2.2.1))]]) 1 0 rfl rfl g10 dX6_set_50 rfl (fun H locs hW => ?_)
        refine lv_iload_n hx hb dX6_set_51 rfl (lv_at hl 0 rfl) ?_
        cases h
        exact E _ _ _ _ _ hW rfl rfl dX6_set_52
      · replace h := q_t e6 h
        refine lv_bipush (v := (-2)) hx hb dX6_set_30 (by decide) ?_
        cases h
        exact E _ _ _ _ _ hW rfl rfl dX6_set_32
    refine lv_if_ne (tgt := 22) hx hb dX6_set_14 (by decide) (fun e11 => ?_) (fun e11 => ?_)
    · replace h := q_f e11 h
      refine lv_bipush (v := 40) hx hb dX6_set_22 (by decide) ?_
      exact J24 40 h _ _ hW _ (lv_sub hl [0, 1, 2] rfl)
    · replace h := q_t e11 h
      refine lv_bipush (v := 100) hx hb dX6_set_17 (by decide) ?_
      refine lv_goto (tgt := 24) hx hb dX6_set_19 (by decide) ?_
      exact J24 100 h _ _ hW _ (lv_sub hl [0, 1, 2] rfl)
  · replace h := q_t e3 h
    refine lv_iconst (v := (-1)) hx hb dX6_set_9 (by decide) ?_
    cases h
    exact E _ _ _ _ _ hW rfl rfl dX6_set_10
def f_X6_traffic (x : TX6s) (p1 : Int32) (p2 : Int32) : Option (Int32 × TX6s) :=
(f_X6_in p1 0 2).bind fun t1 =>
if t1 = 0 then (
some ((-1), x))
else (
(f_X6_in p2 0 20).bind fun t4 =>
if t4 = 0 then (
some ((-2), x))
else (
(f_X6_record x).bind fun t7 =>
if (2 + p1) < 0 ∨ 268 ≤ (2 + p1).toNatClampNeg then none else
if (2 + p1) < 0 ∨ 268 ≤ (2 + p1).toNatClampNeg then none else
some ((t7.1 (2 + p1).toNatClampNeg), ((upd t7.1 (2 + p1).toNatClampNeg p2), t7.2.1, t7.2.2.1, t7.2.2.2.1, t7.2.2.2.2.1, t7.2.2.2.2.2.1, t7.2.2.2.2.2.2.1, t7.2.2.2.2.2.2.2.1, t7.2.2.2.2.2.2.2.2.1, t7.2.2.2.2.2.2.2.2.2.1, t7.2.2.2.2.2.2.2.2.2.2.1, t7.2.2.2.2.2.2.2.2.2.2.2))))
theorem wo_X6_traffic : wordsOk yX6_traffic 2 := by decide +kernel
theorem inX6_traffic_X6 : ∀ w ∈ wsX60, w ∈ wsX6_traffic := fun _ h => List.mem_cons_of_mem _ (List.mem_append_right _ h)
set_option maxHeartbeats 4000000 in
set_option maxRecDepth 100000 in
theorem c_X6_traffic (l : Launch) (g : GG) (A : Nat → Nat) (b : Nat) (x : TX6s) (p1 : Int32) (p2 : Int32) (r : Int32) (x' : TX6s) (h : f_X6_traffic x p1 p2 = some (r, x')) : CI l yX6_traffic wsX6_traffic 1 22 g [.ref (A b), .int p1, .int p2] (wX6 g A b x) r (wX6 g A b x') := by
  refine CI.mk (own := RX6) (by decide) rfl rfl (Nat.le_of_ble_eq_true rfl) ?_
  intro p e R s m args below meth c Z Q C E hR H hW ls hl
  have hx := C.1.1
  have hb := C.1.2.1
  have hown := C.1.2.2.2.1
  replace hW : WdG g Z s.heap H [] [[(A b, .inr (6, [.ref (A (b + 1)), .ref (A (b + 2)), .int x.2.2.1, .ref (A (b + 3)), .int x.2.2.2.2.1, .ref (A (b + 4)), .int x.2.2.2.2.2.2.1, .ref (A (b + 5)), .ref (A (b + 6)), .int x.2.2.2.2.2.2.2.2.2.1, .int x.2.2.2.2.2.2.2.2.2.2.1, .int x.2.2.2.2.2.2.2.2.2.2.2]))], [(A (b + 1), .inl (gI g, 268, .inl x.1))], [(A (b + 2), .inl (gI g, 1340, .inl x.2.1))], [(A (b + 3), .inl (gI g, 268, .inl x.2.2.2.1))], [(A (b + 4), .inl (gC g, 70, .inl x.2.2.2.2.2.1))], [(A (b + 5), .inl (gI g, 3, .inl x.2.2.2.2.2.2.2.1))], [(A (b + 6), .inl (gI g, 144, .inl x.2.2.2.2.2.2.2.2.1))]] := hW.re rfl
  replace hl : lv_has ls 4 [(0, .ref (A b)), (1, .int p1), (2, .int p2)] := hl
  unfold f_X6_traffic at h
  refine lv_iload_n hx hb dX6_traffic_0 rfl (lv_at hl 1 rfl) ?_
  refine lv_iconst (v := 0) hx hb dX6_traffic_1 (by decide) ?_
  refine lv_iconst (v := 2) hx hb dX6_traffic_2 (by decide) ?_
  obtain ⟨t1, h2, h⟩ := q_b h
  refine r_cSi C hW (nA := 3) (As := [.int p1, .int 0, .int 2]) (rest := []) (c_X6_in l g p1 0 2 _ h2) gX6_traffic_X6_in rfl wo_X6_in (rmk hR rfl rfl) rfl rfl hl.1 (Nat.le_of_ble_eq_true rfl) rz dX6_traffic_3 (n := 7) (is := []) (rs := [0, 1, 2, 3, 4, 5, 6]) (bs' := [[(A b, .inr (6, [.ref (A (b + 1)), .ref (A (b + 2)), .int x.2.2.1, .ref (A (b + 3)), .int x.2.2.2.2.1, .ref (A (b + 4)), .int x.2.2.2.2.2.2.1, .ref (A (b + 5)), .ref (A (b + 6)), .int x.2.2.2.2.2.2.2.2.2.1, .int x.2.2.2.2.2.2.2.2.2.2.1, .int x.2.2.2.2.2.2.2.2.2.2.2]))], [(A (b + 1), .inl (gI g, 268, .inl x.1))], [(A (b + 2), .inl (gI g, 1340, .inl x.2.1))], [(A (b + 3), .inl (gI g, 268, .inl x.2.2.2.1))], [(A (b + 4), .inl (gC g, 70, .inl x.2.2.2.2.2.1))], [(A (b + 5), .inl (gI g, 3, .inl x.2.2.2.2.2.2.2.1))], [(A (b + 6), .inl (gI g, 144, .inl x.2.2.2.2.2.2.2.2.1))]]) rfl rfl pm_38 rfl rfl rfl (fun H locs hW => ?_)
  refine lv_if_ne (tgt := 11) hx hb dX6_traffic_6 (by decide) (fun e3 => ?_) (fun e3 => ?_)
  · replace h := q_f e3 h
    refine lv_iload_n hx hb dX6_traffic_11 rfl (lv_at hl 2 rfl) ?_
    refine lv_iconst (v := 0) hx hb dX6_traffic_12 (by decide) ?_
    refine lv_bipush (v := 20) hx hb dX6_traffic_13 (by decide) ?_
    obtain ⟨t4, h5, h⟩ := q_b h
    refine r_cSi C hW (nA := 3) (As := [.int p2, .int 0, .int 20]) (rest := []) (c_X6_in l g p2 0 20 _ h5) gX6_traffic_X6_in rfl wo_X6_in (rmk hR rfl rfl) rfl rfl hl.1 (Nat.le_of_ble_eq_true rfl) rz dX6_traffic_15 (n := 7) (is := []) (rs := [0, 1, 2, 3, 4, 5, 6]) (bs' := [[(A b, .inr (6, [.ref (A (b + 1)), .ref (A (b + 2)), .int x.2.2.1, .ref (A (b + 3)), .int x.2.2.2.2.1, .ref (A (b + 4)), .int x.2.2.2.2.2.2.1, .ref (A (b + 5)), .ref (A (b + 6)), .int x.2.2.2.2.2.2.2.2.2.1, .int x.2.2.2.2.2.2.2.2.2.2.1, .int x.2.2.2.2.2.2.2.2.2.2.2]))], [(A (b + 1), .inl (gI g, 268, .inl x.1))], [(A (b + 2), .inl (gI g, 1340, .inl x.2.1))], [(A (b + 3), .inl (gI g, 268, .inl x.2.2.2.1))], [(A (b + 4), .inl (gC g, 70, .inl x.2.2.2.2.2.1))], [(A (b + 5), .inl (gI g, 3, .inl x.2.2.2.2.2.2.2.1))], [(A (b + 6), .inl (gI g, 144, .inl x.2.2.2.2.2.2.2.2.1))]]) rfl rfl pm_38 rfl rfl rfl (fun H locs hW => ?_)
    refine lv_if_ne (tgt := 24) hx hb dX6_traffic_18 (by decide) (fun e6 => ?_) (fun e6 => ?_)
    · replace h := q_f e6 h
      refine lv_aload_n hx hb dX6_traffic_24 rfl (lv_at hl 0 rfl) ?_
      obtain ⟨t7, h8, h⟩ := q_b h
      refine r_cVv C hW (nA := 0) (As := []) (rest := []) (c_X6_record l g A b x _ h8) gX6_traffic_X6_record rfl ⟨rfl, wo_X6_record⟩ (rmk hR rfl rfl) rfl rfl rfl rfl hl.1 (Nat.le_of_ble_eq_true rfl) rz dX6_traffic_25 (n := 7) (is := [0, 1, 2, 3, 4, 5, 6]) (rs := []) (bs' := [[(A b, .inr (6, [.ref (A (b + 1)), .ref (A (b + 2)), .int t7.2.2.1, .ref (A (b + 3)), .int t7.2.2.2.2.1, .ref (A (b + 4)), .int t7.2.2.2.2.2.2.1, .ref (A (b + 5)), .ref (A (b + 6)), .int t7.2.2.2.2.2.2.2.2.2.1, .int t7.2.2.2.2.2.2.2.2.2.2.1, .int t7.2.2.2.2.2.2.2.2.2.2.2]))], [(A (b + 1), .inl (gI g, 268, .inl t7.1))], [(A (b + 2), .inl (gI g, 1340, .inl t7.2.1))], [(A (b + 3), .inl (gI g, 268, .inl t7.2.2.2.1))], [(A (b + 4), .inl (gC g, 70, .inl t7.2.2.2.2.2.1))], [(A (b + 5), .inl (gI g, 3, .inl t7.2.2.2.2.2.2.2.1))], [(A (b + 6), .inl (gI g, 144, .inl t7.2.2.2.2.2.2.2.2.1))]]) rfl rfl pm_39 rfl rfl rfl (fun H locs hW => ?_)
      refine lv_aload_n hx hb dX6_traffic_28 rfl (lv_at hl 0 rfl) ?_
      refine r_get C hW (K := RX6) (T := TX6) (N := 12) (v := .ref (A (b + 1))) 0 0 0 rfl rfl rfl inX6_traffic_X6 (by decide) (List.mem_of_getElem? (i := 1) rfl) rfl rfl dX6_traffic_29 ?_
      refine lv_iconst (v := 2) hx hb dX6_traffic_32 (by decide) ?_
      refine lv_iload_n hx hb dX6_traffic_33 rfl (lv_at hl 1 rfl) ?_
      refine lv_iadd hx hb dX6_traffic_34 ?_
      obtain ⟨g9, h⟩ := q_g h
      refine r_iald C hW 1 0 rfl rfl g9 dX6_traffic_35 ?_
      refine lv_istore_n (lv' := [(3, .int (t7.1 (2 + p1).toNatClampNeg)), (0, .ref (A b)), (1, .int p1), (2, .int p2)]) hx hb dX6_traffic_36 rfl hl (by decide) rfl (fun ls hl => ?_)
      refine lv_aload_n hx hb dX6_traffic_37 rfl (lv_at hl 1 rfl) ?_
      refine r_get C hW (K := RX6) (T := TX6) (N := 12) (v := .ref (A (b + 1))) 0 0 0 rfl rfl rfl inX6_traffic_X6 (by decide) (List.mem_of_getElem? (i := 1) rfl) rfl rfl dX6_traffic_38 ?_
      refine lv_iconst (v := 2) hx hb dX6_traffic_41 (by decide) ?_
      refine lv_iload_n hx hb dX6_traffic_42 rfl (lv_at hl 2 rfl) ?_
      refine lv_iadd hx hb dX6_traffic_43 ?_
      refine lv_iload_n hx hb dX6_traffic_44 rfl (lv_at hl 3 rfl) ?_
      obtain ⟨g10, h⟩ := q_g h
      refine r_iast C hW (bs' := [[(A b, .inr (6, [.ref (A (b + 1)), .ref (A (b + 2)), .int t7.2.2.1, .ref (A (b + 3)), .int t7.2.2.2.2.1, .ref (A (b + 4)), .int t7.2.2.2.2.2.2.1, .ref (A (b + 5)), .ref (A (b + 6)), .int t7.2.2.2.2.2.2.2.2.2.1, .int t7.2.2.2.2.2.2.2.2.2.2.1, .int t7.2.2.2.2.2.2.2.2.2.2.2]))], [(A (b + 1), .inl (gI g, 268, .inl (upd t7.1 (2 + p1).toNatClampNeg p2)))], [(A (b + 2), .inl (gI g, 1340, .inl t7.2.1))], [(A (b + 3), .inl (gI g, 268, .inl t7.2.2.2.1))], [(A (b + 4), .inl (gC g, 70, .inl t7.2.2.2.2.2.1))], [(A (b + 5), .inl (gI g, 3, .inl t7.2.2.2.2.2.2.2.1))], [(A (b + 6), .inl (gI g, 144, .inl t7.2.2.2.2.2.2.2.2.1))]]) 1 0 rfl rfl g10 dX6_traffic_45 rfl (fun H locs hW => ?_)
      refine lv_iload_n hx hb dX6_traffic_46 rfl (lv_at hl 0 rfl) ?_
      cases h
      exact E _ _ _ _ _ hW rfl rfl dX6_traffic_47
    · replace h := q_t e6 h
      refine lv_bipush (v := (-2)) hx hb dX6_traffic_21 (by decide) ?_
      cases h
      exact E _ _ _ _ _ hW rfl rfl dX6_traffic_23
  · replace h := q_t e3 h
    refine lv_iconst (v := (-1)) hx hb dX6_traffic_9 (by decide) ?_
    cases h
    exact E _ _ _ _ _ hW rfl rfl dX6_traffic_10
def f_X6_bring (x : TX6s) (p1 : Int32) : Option (Int32 × TX6s) :=
(f_X6_in p1 1 99).bind fun t1 =>
if t1 = 0 then (
some ((-2), x))
else (
if (5 : Int32) < 0 ∨ 268 ≤ (5 : Int32).toNatClampNeg then none else
if ((x.1 (5 : Int32).toNatClampNeg) + p1) ≤ 99 then (
(f_X6_record x).bind fun t6 =>
if (5 : Int32) < 0 ∨ 268 ≤ (5 : Int32).toNatClampNeg then none else
if (5 : Int32) < 0 ∨ 268 ≤ (5 : Int32).toNatClampNeg then none else
if (5 : Int32) < 0 ∨ 268 ≤ (5 : Int32).toNatClampNeg then none else
some (((upd t6.1 (5 : Int32).toNatClampNeg ((t6.1 (5 : Int32).toNatClampNeg) + p1)) (5 : Int32).toNatClampNeg), ((upd t6.1 (5 : Int32).toNatClampNeg ((t6.1 (5 : Int32).toNatClampNeg) + p1)), t6.2.1, t6.2.2.1, t6.2.2.2.1, t6.2.2.2.2.1, t6.2.2.2.2.2.1, t6.2.2.2.2.2.2.1, t6.2.2.2.2.2.2.2.1, t6.2.2.2.2.2.2.2.2.1, t6.2.2.2.2.2.2.2.2.2.1, t6.2.2.2.2.2.2.2.2.2.2.1, t6.2.2.2.2.2.2.2.2.2.2.2)))
else (
some ((-4), x)))
theorem wo_X6_bring : wordsOk yX6_bring 1 := by decide +kernel
theorem inX6_bring_X6 : ∀ w ∈ wsX60, w ∈ wsX6_bring := fun _ h => List.mem_cons_of_mem _ (List.mem_append_right _ h)
set_option maxHeartbeats 4000000 in
set_option maxRecDepth 100000 in
theorem c_X6_bring (l : Launch) (g : GG) (A : Nat → Nat) (b : Nat) (x : TX6s) (p1 : Int32) (r : Int32) (x' : TX6s) (h : f_X6_bring x p1 = some (r, x')) : CI l yX6_bring wsX6_bring 1 22 g [.ref (A b), .int p1] (wX6 g A b x) r (wX6 g A b x') := by
  refine CI.mk (own := RX6) (by decide) rfl rfl (Nat.le_of_ble_eq_true rfl) ?_
  intro p e R s m args below meth c Z Q C E hR H hW ls hl
  have hx := C.1.1
  have hb := C.1.2.1
  have hown := C.1.2.2.2.1
  replace hW : WdG g Z s.heap H [] [[(A b, .inr (6, [.ref (A (b + 1)), .ref (A (b + 2)), .int x.2.2.1, .ref (A (b + 3)), .int x.2.2.2.2.1, .ref (A (b + 4)), .int x.2.2.2.2.2.2.1, .ref (A (b + 5)), .ref (A (b + 6)), .int x.2.2.2.2.2.2.2.2.2.1, .int x.2.2.2.2.2.2.2.2.2.2.1, .int x.2.2.2.2.2.2.2.2.2.2.2]))], [(A (b + 1), .inl (gI g, 268, .inl x.1))], [(A (b + 2), .inl (gI g, 1340, .inl x.2.1))], [(A (b + 3), .inl (gI g, 268, .inl x.2.2.2.1))], [(A (b + 4), .inl (gC g, 70, .inl x.2.2.2.2.2.1))], [(A (b + 5), .inl (gI g, 3, .inl x.2.2.2.2.2.2.2.1))], [(A (b + 6), .inl (gI g, 144, .inl x.2.2.2.2.2.2.2.2.1))]] := hW.re rfl
  replace hl : lv_has ls 2 [(0, .ref (A b)), (1, .int p1)] := hl
  unfold f_X6_bring at h
  refine lv_iload_n hx hb dX6_bring_0 rfl (lv_at hl 1 rfl) ?_
  refine lv_iconst (v := 1) hx hb dX6_bring_1 (by decide) ?_
  refine lv_bipush (v := 99) hx hb dX6_bring_2 (by decide) ?_
  obtain ⟨t1, h2, h⟩ := q_b h
  refine r_cSi C hW (nA := 3) (As := [.int p1, .int 1, .int 99]) (rest := []) (c_X6_in l g p1 1 99 _ h2) gX6_bring_X6_in rfl wo_X6_in (rmk hR rfl rfl) rfl rfl hl.1 (Nat.le_of_ble_eq_true rfl) rz dX6_bring_4 (n := 7) (is := []) (rs := [0, 1, 2, 3, 4, 5, 6]) (bs' := [[(A b, .inr (6, [.ref (A (b + 1)), .ref (A (b + 2)), .int x.2.2.1, .ref (A (b + 3)), .int x.2.2.2.2.1, .ref (A (b + 4)), .int x.2.2.2.2.2.2.1, .ref (A (b + 5)), .ref (A (b + 6)), .int x.2.2.2.2.2.2.2.2.2.1, .int x.2.2.2.2.2.2.2.2.2.2.1, .int x.2.2.2.2.2.2.2.2.2.2.2]))], [(A (b + 1), .inl (gI g, 268, .inl x.1))], [(A (b + 2), .inl (gI g, 1340, .inl x.2.1))], [(A (b + 3), .inl (gI g, 268, .inl x.2.2.2.1))], [(A (b + 4), .inl (gC g, 70, .inl x.2.2.2.2.2.1))], [(A (b + 5), .inl (gI g, 3, .inl x.2.2.2.2.2.2.2.1))], [(A (b + 6), .inl (gI g, 144, .inl x.2.2.2.2.2.2.2.2.1))]]) rfl rfl pm_38 rfl rfl rfl (fun H locs hW => ?_)
  refine lv_if_ne (tgt := 13) hx hb dX6_bring_7 (by decide) (fun e3 => ?_) (fun e3 => ?_)
  · replace h := q_f e3 h
    refine lv_aload_n hx hb dX6_bring_13 rfl (lv_at hl 0 rfl) ?_
    refine r_get C hW (K := RX6) (T := TX6) (N := 12) (v := .ref (A (b + 1))) 0 0 0 rfl rfl rfl inX6_bring_X6 (by decide) (List.mem_of_getElem? (i := 1) rfl) rfl rfl dX6_bring_14 ?_
    refine lv_iconst (v := 5) hx hb dX6_bring_17 (by decide) ?_
    obtain ⟨g4, h⟩ := q_g h
    refine r_iald C hW 1 0 rfl rfl g4 dX6_bring_18 ?_
    refine lv_iload_n hx hb dX6_bring_19 rfl (lv_at hl 1 rfl) ?_
    refine lv_iadd hx hb dX6_bring_20 ?_
    refine lv_bipush (v := 99) hx hb dX6_bring_21 (by decide) ?_
    refine lv_icmp_le (tgt := 29) hx hb dX6_bring_23 (by decide) (fun e5 => ?_) (fun e5 => ?_)
    · replace h := q_t e5 h
      refine lv_aload_n hx hb dX6_bring_29 rfl (lv_at hl 0 rfl) ?_
      obtain ⟨t6, h7, h⟩ := q_b h
      refine r_cVv C hW (nA := 0) (As := []) (rest := []) (c_X6_record l g A b x _ h7) gX6_bring_X6_record rfl ⟨rfl, wo_X6_record⟩ (rmk hR rfl rfl) rfl rfl rfl rfl hl.1 (Nat.le_of_ble_eq_true rfl) rz dX6_bring_30 (n := 7) (is := [0, 1, 2, 3, 4, 5, 6]) (rs := []) (bs' := [[(A b, .inr (6, [.ref (A (b + 1)), .ref (A (b + 2)), .int t6.2.2.1, .ref (A (b + 3)), .int t6.2.2.2.2.1, .ref (A (b + 4)), .int t6.2.2.2.2.2.2.1, .ref (A (b + 5)), .ref (A (b + 6)), .int t6.2.2.2.2.2.2.2.2.2.1, .int t6.2.2.2.2.2.2.2.2.2.2.1, .int t6.2.2.2.2.2.2.2.2.2.2.2]))], [(A (b + 1), .inl (gI g, 268, .inl t6.1))], [(A (b + 2), .inl (gI g, 1340, .inl t6.2.1))], [(A (b + 3), .inl (gI g, 268, .inl t6.2.2.2.1))], [(A (b + 4), .inl (gC g, 70, .inl t6.2.2.2.2.2.1))], [(A (b + 5), .inl (gI g, 3, .inl t6.2.2.2.2.2.2.2.1))], [(A (b + 6), .inl (gI g, 144, .inl t6.2.2.2.2.2.2.2.2.1))]]) rfl rfl pm_39 rfl rfl rfl (fun H locs hW => ?_)
      refine lv_aload_n hx hb dX6_bring_33 rfl (lv_at hl 0 rfl) ?_
      refine r_get C hW (K := RX6) (T := TX6) (N := 12) (v := .ref (A (b + 1))) 0 0 0 rfl rfl rfl inX6_bring_X6 (by decide) (List.mem_of_getElem? (i := 1) rfl) rfl rfl dX6_bring_34 ?_
      refine lv_iconst (v := 5) hx hb dX6_bring_37 (by decide) ?_
      refine lv_dup2_11 hx hb dX6_bring_38 rfl rfl ?_
      obtain ⟨g8, h⟩ := q_g h
      refine r_iald C hW 1 0 rfl rfl g8 dX6_bring_39 ?_
      refine lv_iload_n hx hb dX6_bring_40 rfl (lv_at hl 1 rfl) ?_
      refine lv_iadd hx hb dX6_bring_41 ?_
      obtain ⟨g9, h⟩ := q_g h
      refine r_iast C hW (bs' := [[(A b, .inr (6, [.ref (A (b + 1)), .ref (A (b + 2)), .int t6.2.2.1, .ref (A (b + 3)), .int t6.2.2.2.2.1, .ref (A (b + 4)), .int t6.2.2.2.2.2.2.1, .ref (A (b + 5)), .ref (A (b + 6)), .int t6.2.2.2.2.2.2.2.2.2.1, .int t6.2.2.2.2.2.2.2.2.2.2.1, .int t6.2.2.2.2.2.2.2.2.2.2.2]))], [(A (b + 1), .inl (gI g, 268, .inl (upd t6.1 (5 : Int32).toNatClampNeg ((t6.1 (5 : Int32).toNatClampNeg) + p1))))], [(A (b + 2), .inl (gI g, 1340, .inl t6.2.1))], [(A (b + 3), .inl (gI g, 268, .inl t6.2.2.2.1))], [(A (b + 4), .inl (gC g, 70, .inl t6.2.2.2.2.2.1))], [(A (b + 5), .inl (gI g, 3, .inl t6.2.2.2.2.2.2.2.1))], [(A (b + 6), .inl (gI g, 144, .inl t6.2.2.2.2.2.2.2.2.1))]]) 1 0 rfl rfl g9 dX6_bring_42 rfl (fun H locs hW => ?_)
      refine lv_aload_n hx hb dX6_bring_43 rfl (lv_at hl 0 rfl) ?_
      refine r_get C hW (K := RX6) (T := TX6) (N := 12) (v := .ref (A (b + 1))) 0 0 0 rfl rfl rfl inX6_bring_X6 (by decide) (List.mem_of_getElem? (i := 1) rfl) rfl rfl dX6_bring_44 ?_
      refine lv_iconst (v := 5) hx hb dX6_bring_47 (by decide) ?_
      obtain ⟨g10, h⟩ := q_g h
      refine r_iald C hW 1 0 rfl rfl g10 dX6_bring_48 ?_
      cases h
      exact E _ _ _ _ _ hW rfl rfl dX6_bring_49
    · replace h := q_f e5 h
      refine lv_bipush (v := (-4)) hx hb dX6_bring_26 (by decide) ?_
      cases h
      exact E _ _ _ _ _ hW rfl rfl dX6_bring_28
  · replace h := q_t e3 h
    refine lv_bipush (v := (-2)) hx hb dX6_bring_10 (by decide) ?_
    cases h
    exact E _ _ _ _ _ hW rfl rfl dX6_bring_12
