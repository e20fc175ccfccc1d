def f_X3_otherWay (p1 : Int32) : Option (Int32) :=
if p1 = 0 then (
some 1)
else (
if p1 = 1 then (
some 0)
else (
some (-1)))
theorem wo_X3_otherWay : wordsOk yX3_otherWay 1 := by decide +kernel
set_option maxHeartbeats 4000000 in
set_option maxRecDepth 100000 in
theorem c_X3_otherWay (l : Launch) (g : GG) (p1 : Int32) (r : Int32) (h : f_X3_otherWay p1 = some r) : CI l yX3_otherWay wsX3_otherWay 0 0 g [.int p1] ([]) r ([]) := by
  refine CI.mk (own := RX3) (by decide) rfl rfl (Nat.le_of_ble_eq_true rfl) ?_
  intro p e R s m args below meth c Z Q C E hR H hW ls hl
  have hx := C.1.1
  have hb := C.1.2.1
  have hown := C.1.2.2.2.1
  replace hW : WdG g Z s.heap H [] [] := hW.re rfl
  replace hl : lv_has ls 1 [(0, .int p1)] := hl
  unfold f_X3_otherWay at h
  refine lv_iload_n hx hb dX3_otherWay_0 rfl (lv_at hl 0 rfl) ?_
  refine lv_if_ne (tgt := 8) hx hb dX3_otherWay_1 (by decide) (fun e1 => ?_) (fun e1 => ?_)
  · replace h := q_f e1 h
    refine lv_iload_n hx hb dX3_otherWay_8 rfl (lv_at hl 0 rfl) ?_
    refine lv_iconst (v := 1) hx hb dX3_otherWay_9 (by decide) ?_
    refine lv_icmp_ne (tgt := 17) hx hb dX3_otherWay_10 (by decide) (fun e2 => ?_) (fun e2 => ?_)
    · replace h := q_f e2 h
      refine lv_iconst (v := (-1)) hx hb dX3_otherWay_17 (by decide) ?_
      cases h
      exact E _ _ _ _ _ hW rfl rfl dX3_otherWay_18
    · replace h := q_t e2 h
      refine lv_iconst (v := 0) hx hb dX3_otherWay_13 (by decide) ?_
      refine lv_goto (tgt := 18) hx hb dX3_otherWay_14 (by decide) ?_
      cases h
      exact E _ _ _ _ _ hW rfl rfl dX3_otherWay_18
  · replace h := q_t e1 h
    refine lv_iconst (v := 1) hx hb dX3_otherWay_4 (by decide) ?_
    refine lv_goto (tgt := 18) hx hb dX3_otherWay_5 (by decide) ?_
    cases h
    exact E _ _ _ _ _ hW rfl rfl dX3_otherWay_18
def f_X3_isFree (x : TX3s) (p1 : Int32) (p2 : Int32) (p3 : Int32) : Option (Int32) :=
(f_X4_kindOr x.1 p1 p2 (-6)).bind fun t1 =>
(f_X3_otherWay p3).bind fun t3 =>
if t1 = t3 then (
some 0)
else (
some 1)
theorem wo_X3_isFree : wordsOk yX3_isFree 3 := by decide +kernel
theorem inX3_isFree_X3 : ∀ w ∈ wsX30, w ∈ wsX3_isFree := fun _ h => List.mem_cons_of_mem _ (List.mem_append_left _ (List.mem_append_right _ h))
set_option maxHeartbeats 4000000 in
set_option maxRecDepth 100000 in
theorem c_X3_isFree (l : Launch) (g : GG) (A : Nat → Nat) (b : Nat) (x : TX3s) (p1 : Int32) (p2 : Int32) (p3 : Int32) (r : Int32) (h : f_X3_isFree x p1 p2 p3 = some r) : CI l yX3_isFree wsX3_isFree 1 24 g [.ref (A b), .int p1, .int p2, .int p3] (wX3 g A b x) r (wX3 g A b x) := by
  refine CI.mk (own := RX3) (by decide) rfl rfl (Nat.le_of_ble_eq_true rfl) ?_
  intro p e R s m args below meth c Z Q C E hR H hW ls hl
  have hx := C.1.1
  have hb := C.1.2.1
  have hown := C.1.2.2.2.1
  replace hW : WdG g Z s.heap H [] [[(A b, .inr (3, [.ref (A (b + 1)), .ref (A (b + 4)), .ref (A (b + 7)), .ref (A (b + 10)), .ref (A (b + 11)), .int x.2.2.2.2.2.1, .int x.2.2.2.2.2.2.1, .int x.2.2.2.2.2.2.2.1, .int x.2.2.2.2.2.2.2.2.1, .int x.2.2.2.2.2.2.2.2.2]))], wX4 g A (b + 1) x.1, wX4 g A (b + 4) x.2.1, wX4 g A (b + 7) x.2.2.1, [(A (b + 10), .inl (gI g, 3, .inl x.2.2.2.1))], [(A (b + 11), .inl (gI g, 2, .inl x.2.2.2.2.1))]] := hW.re rfl
  replace hl : lv_has ls 4 [(0, .ref (A b)), (1, .int p1), (2, .int p2), (3, .int p3)] := hl
  unfold f_X3_isFree at h
  refine lv_aload_n hx hb dX3_isFree_0 rfl (lv_at hl 0 rfl) ?_
  refine r_get C hW (K := RX3) (T := TX3) (N := 10) (v := .ref (A (b + 1))) 0 0 0 rfl rfl rfl inX3_isFree_X3 (by decide) (List.mem_of_getElem? (i := 1) rfl) rfl rfl dX3_isFree_1 ?_
  refine lv_iload_n hx hb dX3_isFree_4 rfl (lv_at hl 1 rfl) ?_
  refine lv_iload_n hx hb dX3_isFree_5 rfl (lv_at hl 2 rfl) ?_
  refine lv_bipush (v := (-6)) hx hb dX3_isFree_6 (by decide) ?_
  obtain ⟨t1, h2, h⟩ := q_b h
  refine r_cVi C hW (nA := 3) (As := [.int p1, .int p2, .int (-6)]) (rest := []) (c_X4_kindOr l g A (b + 1) x.1 p1 p2 (-6) _ h2) gX3_isFree_X4_kindOr rfl ⟨rfl, wo_X4_kindOr⟩ (rmk hR rfl rfl) rfl rfl rfl rfl hl.1 (Nat.le_of_ble_eq_true rfl) rz dX3_isFree_8 (n := 6) (is := [1]) (rs := [0, 2, 3, 4, 5]) (bs' := [[(A b, .inr (3, [.ref (A (b + 1)), .ref (A (b + 4)), .ref (A (b + 7)), .ref (A (b + 10)), .ref (A (b + 11)), .int x.2.2.2.2.2.1, .int x.2.2.2.2.2.2.1, .int x.2.2.2.2.2.2.2.1, .int x.2.2.2.2.2.2.2.2.1, .int x.2.2.2.2.2.2.2.2.2]))], wX4 g A (b + 1) x.1, wX4 g A (b + 4) x.2.1, wX4 g A (b + 7) x.2.2.1, [(A (b + 10), .inl (gI g, 3, .inl x.2.2.2.1))], [(A (b + 11), .inl (gI g, 2, .inl x.2.2.2.2.1))]]) rfl rfl pm_5f1b36ad (List.append_nil _) (List.append_nil _) rfl (fun H locs hW => ?_)
  refine lv_iload_n hx hb dX3_isFree_11 rfl (lv_at hl 3 rfl) ?_
  obtain ⟨t3, h4, h⟩ := q_b h
  refine r_cSi C hW (nA := 1) (As := [.int p3]) (rest := [.int t1]) (c_X3_otherWay l g p3 _ h4) gX3_isFree_X3_otherWay rfl wo_X3_otherWay (rmk hR rfl rfl) rfl rfl hl.1 (Nat.le_of_ble_eq_true rfl) rz dX3_isFree_12 (n := 6) (is := []) (rs := [0, 1, 2, 3, 4, 5]) (bs' := [[(A b, .inr (3, [.ref (A (b + 1)), .ref (A (b + 4)), .ref (A (b + 7)), .ref (A (b + 10)), .ref (A (b + 11)), .int x.2.2.2.2.2.1, .int x.2.2.2.2.2.2.1, .int x.2.2.2.2.2.2.2.1, .int x.2.2.2.2.2.2.2.2.1, .int x.2.2.2.2.2.2.2.2.2]))], wX4 g A (b + 1) x.1, wX4 g A (b + 4) x.2.1, wX4 g A (b + 7) x.2.2.1, [(A (b + 10), .inl (gI g, 3, .inl x.2.2.2.1))], [(A (b + 11), .inl (gI g, 2, .inl x.2.2.2.2.1))]]) rfl rfl pm_071a2d01 rfl rfl rfl (fun H locs hW => ?_)
  refine lv_icmp_eq (tgt := 22) hx hb dX3_isFree_15 (by decide) (fun e5 => ?_) (fun e5 => ?_)
  · replace h := q_t e5 h
    refine lv_iconst (v := 0) hx hb dX3_isFree_22 (by decide) ?_
    cases h
    exact E _ _ _ _ _ hW rfl rfl dX3_isFree_23
  · replace h := q_f e5 h
    refine lv_iconst (v := 1) hx hb dX3_isFree_18 (by decide) ?_
    refine lv_goto (tgt := 23) hx hb dX3_isFree_19 (by decide) ?_
    cases h
    exact E _ _ _ _ _ hW rfl rfl dX3_isFree_23
def f_X3_dashAt (x : TX3s) (p1 : Int32) (p2 : Int32) : Option (Int32) :=
(f_X4_kindOr x.2.2.1 p1 p2 0).bind fun t1 =>
some t1
theorem wo_X3_dashAt : wordsOk yX3_dashAt 2 := by decide +kernel
theorem inX3_dashAt_X3 : ∀ w ∈ wsX30, w ∈ wsX3_dashAt := fun _ h => List.mem_cons_of_mem _ (List.mem_append_left _ (List.mem_append_right _ h))
set_option maxHeartbeats 4000000 in
set_option maxRecDepth 100000 in
theorem c_X3_dashAt (l : Launch) (g : GG) (A : Nat → Nat) (b : Nat) (x : TX3s) (p1 : Int32) (p2 : Int32) (r : Int32) (h : f_X3_dashAt x p1 p2 = some r) : CI l yX3_dashAt wsX3_dashAt 1 24 g [.ref (A b), .int p1, .int p2] (wX3 g A b x) r (wX3 g A b x) := by
  refine CI.mk (own := RX3) (by decide) rfl rfl (Nat.le_of_ble_eq_true rfl) ?_
  intro p e R s m args below meth c Z Q C E hR H hW ls hl
  have hx := C.1.1
  have hb := C.1.2.1
  have hown := C.1.2.2.2.1
  replace hW : WdG g Z s.heap H [] [[(A b, .inr (3, [.ref (A (b + 1)), .ref (A (b + 4)), .ref (A (b + 7)), .ref (A (b + 10)), .ref (A (b + 11)), .int x.2.2.2.2.2.1, .int x.2.2.2.2.2.2.1, .int x.2.2.2.2.2.2.2.1, .int x.2.2.2.2.2.2.2.2.1, .int x.2.2.2.2.2.2.2.2.2]))], wX4 g A (b + 1) x.1, wX4 g A (b + 4) x.2.1, wX4 g A (b + 7) x.2.2.1, [(A (b + 10), .inl (gI g, 3, .inl x.2.2.2.1))], [(A (b + 11), .inl (gI g, 2, .inl x.2.2.2.2.1))]] := hW.re rfl
  replace hl : lv_has ls 3 [(0, .ref (A b)), (1, .int p1), (2, .int p2)] := hl
  unfold f_X3_dashAt at h
  refine lv_aload_n hx hb dX3_dashAt_0 rfl (lv_at hl 0 rfl) ?_
  refine r_get C hW (K := RX3) (T := TX3) (N := 10) (v := .ref (A (b + 7))) 0 0 2 rfl rfl rfl inX3_dashAt_X3 (by decide) (List.mem_of_getElem? (i := 1) rfl) rfl rfl dX3_dashAt_1 ?_
  refine lv_iload_n hx hb dX3_dashAt_4 rfl (lv_at hl 1 rfl) ?_
  refine lv_iload_n hx hb dX3_dashAt_5 rfl (lv_at hl 2 rfl) ?_
  refine lv_iconst (v := 0) hx hb dX3_dashAt_6 (by decide) ?_
  obtain ⟨t1, h2, h⟩ := q_b h
  refine r_cVi C hW (nA := 3) (As := [.int p1, .int p2, .int 0]) (rest := []) (c_X4_kindOr l g A (b + 7) x.2.2.1 p1 p2 0 _ h2) gX3_dashAt_X4_kindOr rfl ⟨rfl, wo_X4_kindOr⟩ (rmk hR rfl rfl) rfl rfl rfl rfl hl.1 (Nat.le_of_ble_eq_true rfl) rz dX3_dashAt_7 (n := 6) (is := [3]) (rs := [0, 1, 2, 4, 5]) (bs' := [[(A b, .inr (3, [.ref (A (b + 1)), .ref (A (b + 4)), .ref (A (b + 7)), .ref (A (b + 10)), .ref (A (b + 11)), .int x.2.2.2.2.2.1, .int x.2.2.2.2.2.2.1, .int x.2.2.2.2.2.2.2.1, .int x.2.2.2.2.2.2.2.2.1, .int x.2.2.2.2.2.2.2.2.2]))], wX4 g A (b + 1) x.1, wX4 g A (b + 4) x.2.1, wX4 g A (b + 7) x.2.2.1, [(A (b + 10), .inl (gI g, 3, .inl x.2.2.2.1))], [(A (b + 11), .inl (gI g, 2, .inl x.2.2.2.2.1))]]) rfl rfl pm_c3f8ed8c (List.append_nil _) (List.append_nil _) rfl (fun H locs hW => ?_)
  cases h
  exact E _ _ _ _ _ hW rfl rfl dX3_dashAt_10
def f_X3_allowsChange_j39 (x : TX3s) (p2 : Int32) (p3 : Int32) (p4 : Int32) (w39 : Int32) : Option (Int32) :=
if w39 = 0 then (
some 0)
else (
(f_X3_isFree x p2 p3 p4).bind fun t4 =>
if t4 = 0 then (
some 0)
else (
some 1))
def f_X3_allowsChange_j34 (x : TX3s) (p2 : Int32) (p3 : Int32) (p4 : Int32) (w34 : Unit) : Option (Int32) :=
f_X3_allowsChange_j39 x p2 p3 p4 1
def f_X3_allowsChange_j38 (x : TX3s) (p2 : Int32) (p3 : Int32) (p4 : Int32) (w38 : Unit) : Option (Int32) :=
f_X3_allowsChange_j39 x p2 p3 p4 0
def f_X3_allowsChange (x : TX3s) (p1 : Int32) (p2 : Int32) (p3 : Int32) (p4 : Int32) : Option (Int32) :=
(f_X3_dashAt x (if p2 < p1 then p2 else p1) p3).bind fun t1 =>
if t1 = 0 then (
f_X3_allowsChange_j34 x p2 p3 p4 ())
else (
if t1 = 2 then (
f_X3_allowsChange_j34 x p2 p3 p4 ())
else (
if t1 = 3 then (
if p2 ≤ p1 then (
f_X3_allowsChange_j38 x p2 p3 p4 ())
else (
f_X3_allowsChange_j34 x p2 p3 p4 ()))
else (
f_X3_allowsChange_j38 x p2 p3 p4 ())))
theorem wo_X3_allowsChange : wordsOk yX3_allowsChange 4 := by decide +kernel
set_option maxHeartbeats 4000000 in
set_option maxRecDepth 100000 in
theorem c_X3_allowsChange (l : Launch) (g : GG) (A : Nat → Nat) (b : Nat) (x : TX3s) (p1 : Int32) (p2 : Int32) (p3 : Int32) (p4 : Int32) (r : Int32) (h : f_X3_allowsChange x p1 p2 p3 p4 = some r) : CI l yX3_allowsChange wsX3_allowsChange 2 47 g [.ref (A b), .int p1, .int p2, .int p3, .int p4] (wX3 g A b x) r (wX3 g A b x) := by
  refine CI.mk (own := RX3) (by decide) rfl rfl (Nat.le_of_ble_eq_true rfl) ?_
  intro p e R s m args below meth c Z Q C E hR H hW ls hl
  have hx := C.1.1
  have hb := C.1.2.1
  have hown := C.1.2.2.2.1
  replace hW : WdG g Z s.heap H [] [[(A b, .inr (3, [.ref (A (b + 1)), .ref (A (b + 4)), .ref (A (b + 7)), .ref (A (b + 10)), .ref (A (b + 11)), .int x.2.2.2.2.2.1, .int x.2.2.2.2.2.2.1, .int x.2.2.2.2.2.2.2.1, .int x.2.2.2.2.2.2.2.2.1, .int x.2.2.2.2.2.2.2.2.2]))], wX4 g A (b + 1) x.1, wX4 g A (b + 4) x.2.1, wX4 g A (b + 7) x.2.2.1, [(A (b + 10), .inl (gI g, 3, .inl x.2.2.2.1))], [(A (b + 11), .inl (gI g, 2, .inl x.2.2.2.2.1))]] := hW.re rfl
  replace hl : lv_has ls 7 [(0, .ref (A b)), (1, .int p1), (2, .int p2), (3, .int p3), (4, .int p4)] := hl
  unfold f_X3_allowsChange at h
  refine lv_aload_n hx hb dX3_allowsChange_0 rfl (lv_at hl 0 rfl) ?_
  refine lv_iload_n hx hb dX3_allowsChange_1 rfl (lv_at hl 1 rfl) ?_
  refine lv_iload_n hx hb dX3_allowsChange_2 rfl (lv_at hl 2 rfl) ?_
  refine r_min C hl.1 (List.mem_of_getElem? (i := 1) rfl) (List.mem_of_getElem? (i := 2) rfl) (List.mem_of_getElem? (i := 3) rfl) (List.mem_of_getElem? (i := 4) rfl) (rmk hR rfl rfl) rz dX3_allowsChange_3 ?_
  refine lv_iload_n hx hb dX3_allowsChange_6 rfl (lv_at hl 3 rfl) ?_
  obtain ⟨t1, h2, h⟩ := q_b h
  refine r_cVi C hW (nA := 2) (As := [.int (if p2 < p1 then p2 else p1), .int p3]) (rest := []) (c_X3_dashAt l g A b x (if p2 < p1 then p2 else p1) p3 _ h2) gX3_allowsChange_X3_dashAt rfl ⟨rfl, wo_X3_dashAt⟩ (rmk hR rfl rfl) rfl rfl rfl rfl hl.1 (Nat.le_of_ble_eq_true rfl) rz dX3_allowsChange_7 (n := 6) (is := [0, 1, 2, 3, 4, 5]) (rs := []) (bs' := [[(A b, .inr (3, [.ref (A (b + 1)), .ref (A (b + 4)), .ref (A (b + 7)), .ref (A (b + 10)), .ref (A (b + 11)), .int x.2.2.2.2.2.1, .int x.2.2.2.2.2.2.1, .int x.2.2.2.2.2.2.2.1, .int x.2.2.2.2.2.2.2.2.1, .int x.2.2.2.2.2.2.2.2.2]))], wX4 g A (b + 1) x.1, wX4 g A (b + 4) x.2.1, wX4 g A (b + 7) x.2.2.1, [(A (b + 10), .inl (gI g, 3, .inl x.2.2.2.1))], [(A (b + 11), .inl (gI g, 2, .inl x.2.2.2.2.1))]]) rfl rfl pm_232c3c4a rfl rfl rfl (fun H locs hW => ?_)
  refine lv_istore (lv' := [(5, .int t1), (0, .ref (A b)), (1, .int p1), (2, .int p2), (3, .int p3), (4, .int p4)]) hx hb dX3_allowsChange_10 hl (by decide) rfl (fun ls hl => ?_)
  refine lv_iload hx hb dX3_allowsChange_12 (lv_at hl 0 rfl) ?_
  have J39 : ∀ (w39 : Int32), f_X3_allowsChange_j39 x p2 p3 p4 w39 = some r → ∀ (H : Heap) (locs : List Loc), WdG g Z s.heap H locs [[(A b, .inr (3, [.ref (A (b + 1)), .ref (A (b + 4)), .ref (A (b + 7)), .ref (A (b + 10)), .ref (A (b + 11)), .int x.2.2.2.2.2.1, .int x.2.2.2.2.2.2.1, .int x.2.2.2.2.2.2.2.1, .int x.2.2.2.2.2.2.2.2.1, .int x.2.2.2.2.2.2.2.2.2]))], wX4 g A (b + 1) x.1, wX4 g A (b + 4) x.2.1, wX4 g A (b + 7) x.2.2.1, [(A (b + 10), .inl (gI g, 3, .inl x.2.2.2.1))], [(A (b + 11), .inl (gI g, 2, .inl x.2.2.2.2.1))]] → ∀ ls : Array Slot, lv_has ls 7 [(0, .ref (A b)), (2, .int p2), (3, .int p3), (4, .int p4)] → W p l e R s m args below meth c H locs 0 0 Q (F0 m 39 ls [.int w39]) := by
    intro w39 h H locs hW ls hl
    unfold f_X3_allowsChange_j39 at h
    refine lv_istore (lv' := [(6, .int w39), (0, .ref (A b)), (2, .int p2), (3, .int p3), (4, .int p4)]) hx hb dX3_allowsChange_39 hl (by decide) rfl (fun ls hl => ?_)
    refine lv_iload hx hb dX3_allowsChange_41 (lv_at hl 0 rfl) ?_
    refine lv_if_eq (tgt := 61) hx hb dX3_allowsChange_43 (by decide) (fun e3 => ?_) (fun e3 => ?_)
    · replace h := q_t e3 h
      refine lv_iconst (v := 0) hx hb dX3_allowsChange_61 (by decide) ?_
      cases h
      exact E _ _ _ _ _ hW rfl rfl dX3_allowsChange_62
    · replace h := q_f e3 h
      refine lv_aload_n hx hb dX3_allowsChange_46 rfl (lv_at hl 1 rfl) ?_
      refine lv_iload_n hx hb dX3_allowsChange_47 rfl (lv_at hl 2 rfl) ?_
      refine lv_iload_n hx hb dX3_allowsChange_48 rfl (lv_at hl 3 rfl) ?_
      refine lv_iload hx hb dX3_allowsChange_49 (lv_at hl 4 rfl) ?_
      obtain ⟨t4, h5, h⟩ := q_b h
      refine r_cVi C hW (nA := 3) (As := [.int p2, .int p3, .int p4]) (rest := []) (c_X3_isFree l g A b x p2 p3 p4 _ h5) gX3_allowsChange_X3_isFree rfl ⟨rfl, wo_X3_isFree⟩ (rmk hR rfl rfl) rfl rfl rfl rfl hl.1 (Nat.le_of_ble_eq_true rfl) rz dX3_allowsChange_51 (n := 6) (is := [0, 1, 2, 3, 4, 5]) (rs := []) (bs' := [[(A b, .inr (3, [.ref (A (b + 1)), .ref (A (b + 4)), .ref (A (b + 7)), .ref (A (b + 10)), .ref (A (b + 11)), .int x.2.2.2.2.2.1, .int x.2.2.2.2.2.2.1, .int x.2.2.2.2.2.2.2.1, .int x.2.2.2.2.2.2.2.2.1, .int x.2.2.2.2.2.2.2.2.2]))], wX4 g A (b + 1) x.1, wX4 g A (b + 4) x.2.1, wX4 g A (b + 7) x.2.2.1, [(A (b + 10), .inl (gI g, 3, .inl x.2.2.2.1))], [(A (b + 11), .inl (gI g, 2, .inl x.2.2.2.2.1))]]) rfl rfl pm_232c3c4a rfl rfl rfl (fun H locs hW => ?_)
      refine lv_if_eq (tgt := 61) hx hb dX3_allowsChange_54 (by decide) (fun e6 => ?_) (fun e6 => ?_)
      · replace h := q_t e6 h
        refine lv_iconst (v := 0) hx hb dX3_allowsChange_61 (by decide) ?_
        cases h
        exact E _ _ _ _ _ hW rfl rfl dX3_allowsChange_62
      · replace h := q_f e6 h
        refine lv_iconst (v := 1) hx hb dX3_allowsChange_57 (by decide) ?_
        refine lv_goto (tgt := 62) hx hb dX3_allowsChange_58 (by decide) ?_
        cases h
        exact E _ _ _ _ _ hW rfl rfl dX3_allowsChange_62
  have J34 : ∀ (w34 : Unit), f_X3_allowsChange_j34 x p2 p3 p4 w34 = some r → ∀ (H : Heap) (locs : List Loc), WdG g Z s.heap H locs [[(A b, .inr (3, [.ref (A (b + 1)), .ref (A (b + 4)), .ref (A (b + 7)), .ref (A (b + 10)), .ref (A (b + 11)), .int x.2.2.2.2.2.1, .int x.2.2.2.2.2.2.1, .int x.2.2.2.2.2.2.2.1, .int x.2.2.2.2.2.2.2.2.1, .int x.2.2.2.2.2.2.2.2.2]))], wX4 g A (b + 1) x.1, wX4 g A (b + 4) x.2.1, wX4 g A (b + 7) x.2.2.1, [(A (b + 10), .inl (gI g, 3, .inl x.2.2.2.1))], [(A (b + 11), .inl (gI g, 2, .inl x.2.2.2.2.1))]] → ∀ ls : Array Slot, lv_has ls 7 [(0, .ref (A b)), (2, .int p2), (3, .int p3), (4, .int p4)] → W p l e R s m args below meth c H locs 0 0 Q (F0 m 34 ls []) := by
    intro w34 h H locs hW ls hl
    unfold f_X3_allowsChange_j34 at h
    refine lv_iconst (v := 1) hx hb dX3_allowsChange_34 (by decide) ?_
    refine lv_goto (tgt := 39) hx hb dX3_allowsChange_35 (by decide) ?_
    exact J39 1 h _ _ hW _ (lv_sub hl [0, 1, 2, 3] rfl)
  refine lv_if_eq (tgt := 34) hx hb dX3_allowsChange_14 (by decide) (fun e7 => ?_) (fun e7 => ?_)
  · replace h := q_t e7 h
    exact J34 () h _ _ hW _ (lv_sub hl [1, 3, 4, 5] rfl)
  · replace h := q_f e7 h
    refine lv_iload hx hb dX3_allowsChange_17 (lv_at hl 0 rfl) ?_
    refine lv_iconst (v := 2) hx hb dX3_allowsChange_19 (by decide) ?_
    refine lv_icmp_eq (tgt := 34) hx hb dX3_allowsChange_20 (by decide) (fun e8 => ?_) (fun e8 => ?_)
    · replace h := q_t e8 h
      exact J34 () h _ _ hW _ (lv_sub hl [1, 3, 4, 5] rfl)
    · replace h := q_f e8 h
      refine lv_iload hx hb dX3_allowsChange_23 (lv_at hl 0 rfl) ?_
      refine lv_iconst (v := 3) hx hb dX3_allowsChange_25 (by decide) ?_
      have J38 : ∀ (w38 : Unit), f_X3_allowsChange_j38 x p2 p3 p4 w38 = some r → ∀ (H : Heap) (locs : List Loc), WdG g Z s.heap H locs [[(A b, .inr (3, [.ref (A (b + 1)), .ref (A (b + 4)), .ref (A (b + 7)), .ref (A (b + 10)), .ref (A (b + 11)), .int x.2.2.2.2.2.1, .int x.2.2.2.2.2.2.1, .int x.2.2.2.2.2.2.2.1, .int x.2.2.2.2.2.2.2.2.1, .int x.2.2.2.2.2.2.2.2.2]))], wX4 g A (b + 1) x.1, wX4 g A (b + 4) x.2.1, wX4 g A (b + 7) x.2.2.1, [(A (b + 10), .inl (gI g, 3, .inl x.2.2.2.1))], [(A (b + 11), .inl (gI g, 2, .inl x.2.2.2.2.1))]] → ∀ ls : Array Slot, lv_has ls 7 [(0, .ref (A b)), (2, .int p2), (3, .int p3), (4, .int p4)] → W p l e R s m args below meth c H locs 0 0 Q (F0 m 38 ls []) := by
        intro w38 h H locs hW ls hl
        unfold f_X3_allowsChange_j38 at h
        refine lv_iconst (v := 0) hx hb dX3_allowsChange_38 (by decide) ?_
        exact J39 0 h _ _ hW _ (lv_sub hl [0, 1, 2, 3] rfl)
      refine lv_icmp_ne (tgt := 38) hx hb dX3_allowsChange_26 (by decide) (fun e9 => ?_) (fun e9 => ?_)
      · replace h := q_f e9 h
        exact J38 () h _ _ hW _ (lv_sub hl [1, 3, 4, 5] rfl)
      · replace h := q_t e9 h
        refine lv_iload_n hx hb dX3_allowsChange_29 rfl (lv_at hl 2 rfl) ?_
        refine lv_iload_n hx hb dX3_allowsChange_30 rfl (lv_at hl 3 rfl) ?_
        refine lv_icmp_ge (tgt := 38) hx hb dX3_allowsChange_31 (by decide) (fun e10 => ?_) (fun e10 => ?_)
        · replace h := q_t e10 h
          exact J38 () h _ _ hW _ (lv_sub hl [1, 3, 4, 5] rfl)
        · replace h := q_f e10 h
          exact J34 () h _ _ hW _ (lv_sub hl [1, 3, 4, 5] rfl)
def f_X3_copyFrom (x : TX3s) (y : TX3s) : Option (TX3s) :=
(f_X4_copyFrom x.1 y.1).bind fun t1 =>
(f_X4_copyFrom x.2.1 y.2.1).bind fun t3 =>
(f_X4_copyFrom x.2.2.1 y.2.2.1).bind fun t5 =>
some (t1, t3, t5, (va_cpy y.2.2.2.1 x.2.2.2.1 (0 : Int32).toNatClampNeg (0 : Int32).toNatClampNeg (3 : Int32).toNatClampNeg), (va_cpy y.2.2.2.2.1 x.2.2.2.2.1 (0 : Int32).toNatClampNeg (0 : Int32).toNatClampNeg (2 : Int32).toNatClampNeg), y.2.2.2.2.2.1, y.2.2.2.2.2.2.1, y.2.2.2.2.2.2.2.1, y.2.2.2.2.2.2.2.2.1, y.2.2.2.2.2.2.2.2.2)
theorem wo_X3_copyFrom : wordsOk yX3_copyFrom 1 := by decide +kernel
theorem inX3_copyFrom_X3 : ∀ w ∈ wsX30, w ∈ wsX3_copyFrom := fun _ h => List.mem_cons_of_mem _ (List.mem_append_left _ (List.mem_append_right _ h))
set_option maxHeartbeats 4000000 in
set_option maxRecDepth 100000 in
theorem c_X3_copyFrom (l : Launch) (g : GG) (A : Nat → Nat) (b : Nat) (A2 : Nat → Nat) (b2 : Nat) (x : TX3s) (y : TX3s) (x' : TX3s) (h : f_X3_copyFrom x y = some x') : CV l yX3_copyFrom wsX3_copyFrom 1 60 g [.ref (A b), .ref (A2 b2)] (wX3 g A b x ++ wX3 g A2 b2 y) (wX3 g A b x' ++ wX3 g A2 b2 y) := by
  refine CV.mk (own := RX3) (by decide) rfl rfl (Nat.le_of_ble_eq_true rfl) ?_
  intro p e R s m args below meth c Z Q C E hR H hW ls hl
  have hx := C.1.1
  have hb := C.1.2.1
  have hown := C.1.2.2.2.1
  replace hW : WdG g Z s.heap H [] [[(A b, .inr (3, [.ref (A (b + 1)), .ref (A (b + 4)), .ref (A (b + 7)), .ref (A (b + 10)), .ref (A (b + 11)), .int x.2.2.2.2.2.1, .int x.2.2.2.2.2.2.1, .int x.2.2.2.2.2.2.2.1, .int x.2.2.2.2.2.2.2.2.1, .int x.2.2.2.2.2.2.2.2.2]))], wX4 g A (b + 1) x.1, wX4 g A (b + 4) x.2.1, wX4 g A (b + 7) x.2.2.1, [(A (b + 10), .inl (gI g, 3, .inl x.2.2.2.1))], [(A (b + 11), .inl (gI g, 2, .inl x.2.2.2.2.1))], [(A2 b2, .inr (3, [.ref (A2 (b2 + 1)), .ref (A2 (b2 + 4)), .ref (A2 (b2 + 7)), .ref (A2 (b2 + 10)), .ref (A2 (b2 + 11)), .int y.2.2.2.2.2.1, .int y.2.2.2.2.2.2.1, .int y.2.2.2.2.2.2.2.1, .int y.2.2.2.2.2.2.2.2.1, .int y.2.2.2.2.2.2.2.2.2]))], wX4 g A2 (b2 + 1) y.1, wX4 g A2 (b2 + 4) y.2.1, wX4 g A2 (b2 + 7) y.2.2.1, [(A2 (b2 + 10), .inl (gI g, 3, .inl y.2.2.2.1))], [(A2 (b2 + 11), .inl (gI g, 2, .inl y.2.2.2.2.1))]] := hW.re rfl
  replace hl : lv_has ls 2 [(0, .ref (A b)), (1, .ref (A2 b2))] := hl
  unfold f_X3_copyFrom at h
  refine lv_aload_n hx hb dX3_copyFrom_0 rfl (lv_at hl 0 rfl) ?_
  refine r_get C hW (K := RX3) (T := TX3) (N := 10) (v := .ref (A (b + 1))) 0 0 0 rfl rfl rfl inX3_copyFrom_X3 (by decide) (List.mem_of_getElem? (i := 1) rfl) rfl rfl dX3_copyFrom_1 ?_
  refine lv_aload_n hx hb dX3_copyFrom_4 rfl (lv_at hl 1 rfl) ?_
  refine r_get C hW (K := RX3) (T := TX3) (N := 10) (v := .ref (A2 (b2 + 1))) 6 0 0 rfl rfl rfl inX3_copyFrom_X3 (by decide) (List.mem_of_getElem? (i := 1) rfl) rfl rfl dX3_copyFrom_5 ?_
  obtain ⟨t1, h2, h⟩ := q_b h
  refine r_cVv C hW (nA := 1) (As := [.ref (A2 (b2 + 1))]) (rest := []) (c_X4_copyFrom l g A (b + 1) A2 (b2 + 1) x.1 y.1 _ h2) gX3_copyFrom_X4_copyFrom rfl ⟨rfl, wo_X4_copyFrom⟩ (rmk hR rfl rfl) rfl rfl rfl rfl hl.1 (Nat.le_of_ble_eq_true rfl) rz dX3_copyFrom_8 (n := 12) (is := [1, 7]) (rs := [0, 2, 3, 4, 5, 6, 8, 9, 10, 11]) (bs' := [[(A b, .inr (3, [.ref (A (b + 1)), .ref (A (b + 4)), .ref (A (b + 7)), .ref (A (b + 10)), .ref (A (b + 11)), .int x.2.2.2.2.2.1, .int x.2.2.2.2.2.2.1, .int x.2.2.2.2.2.2.2.1, .int x.2.2.2.2.2.2.2.2.1, .int x.2.2.2.2.2.2.2.2.2]))], wX4 g A (b + 1) t1, wX4 g A (b + 4) x.2.1, wX4 g A (b + 7) x.2.2.1, [(A (b + 10), .inl (gI g, 3, .inl x.2.2.2.1))], [(A (b + 11), .inl (gI g, 2, .inl x.2.2.2.2.1))], [(A2 b2, .inr (3, [.ref (A2 (b2 + 1)), .ref (A2 (b2 + 4)), .ref (A2 (b2 + 7)), .ref (A2 (b2 + 10)), .ref (A2 (b2 + 11)), .int y.2.2.2.2.2.1, .int y.2.2.2.2.2.2.1, .int y.2.2.2.2.2.2.2.1, .int y.2.2.2.2.2.2.2.2.1, .int y.2.2.2.2.2.2.2.2.2]))], wX4 g A2 (b2 + 1) y.1, wX4 g A2 (b2 + 4) y.2.1, wX4 g A2 (b2 + 7) y.2.2.1, [(A2 (b2 + 10), .inl (gI g, 3, .inl y.2.2.2.1))], [(A2 (b2 + 11), .inl (gI g, 2, .inl y.2.2.2.2.1))]]) rfl rfl pm_f752c752 rfl rfl rfl (fun H locs hW => ?_)
  refine lv_aload_n hx hb dX3_copyFrom_11 rfl (lv_at hl 0 rfl) ?_
  refine r_get C hW (K := RX3) (T := TX3) (N := 10) (v := .ref (A (b + 4))) 0 0 1 rfl rfl rfl inX3_copyFrom_X3 (by decide) (List.mem_of_getElem? (i := 2) rfl) rfl rfl dX3_copyFrom_12 ?_
  refine lv_aload_n hx hb dX3_copyFrom_15 rfl (lv_at hl 1 rfl) ?_
  refine r_get C hW (K := RX3) (T := TX3) (N := 10) (v := .ref (A2 (b2 + 4))) 6 0 1 rfl rfl rfl inX3_copyFrom_X3 (by decide) (List.mem_of_getElem? (i := 2) rfl) rfl rfl dX3_copyFrom_16 ?_
  obtain ⟨t3, h4, h⟩ := q_b h
  refine r_cVv C hW (nA := 1) (As := [.ref (A2 (b2 + 4))]) (rest := []) (c_X4_copyFrom l g A (b + 4) A2 (b2 + 4) x.2.1 y.2.1 _ h4) gX3_copyFrom_X4_copyFrom rfl ⟨rfl, wo_X4_copyFrom⟩ (rmk hR rfl rfl) rfl rfl rfl rfl hl.1 (Nat.le_of_ble_eq_true rfl) rz dX3_copyFrom_19 (n := 12) (is := [2, 8]) (rs := [0, 1, 3, 4, 5, 6, 7, 9, 10, 11]) (bs' := [[(A b, .inr (3, [.ref (A (b + 1)), .ref (A (b + 4)), .ref (A (b + 7)), .ref (A (b + 10)), .ref (A (b + 11)), .int x.2.2.2.2.2.1, .int x.2.2.2.2.2.2.1, .int x.2.2.2.2.2.2.2.1, .int x.2.2.2.2.2.2.2.2.1, .int x.2.2.2.2.2.2.2.2.2]))], wX4 g A (b + 1) t1, wX4 g A (b + 4) t3, wX4 g A (b + 7) x.2.2.1, [(A (b + 10), .inl (gI g, 3, .inl x.2.2.2.1))], [(A (b + 11), .inl (gI g, 2, .inl x.2.2.2.2.1))], [(A2 b2, .inr (3, [.ref (A2 (b2 + 1)), .ref (A2 (b2 + 4)), .ref (A2 (b2 + 7)), .ref (A2 (b2 + 10)), .ref (A2 (b2 + 11)), .int y.2.2.2.2.2.1, .int y.2.2.2.2.2.2.1, .int y.2.2.2.2.2.2.2.1, .int y.2.2.2.2.2.2.2.2.1, .int y.2.2.2.2.2.2.2.2.2]))], wX4 g A2 (b2 + 1) y.1, wX4 g A2 (b2 + 4) y.2.1, wX4 g A2 (b2 + 7) y.2.2.1, [(A2 (b2 + 10), .inl (gI g, 3, .inl y.2.2.2.1))], [(A2 (b2 + 11), .inl (gI g, 2, .inl y.2.2.2.2.1))]]) rfl rfl pm_b02f986b rfl rfl rfl (fun H locs hW => ?_)
  refine lv_aload_n hx hb dX3_copyFrom_22 rfl (lv_at hl 0 rfl) ?_
  refine r_get C hW (K := RX3) (T := TX3) (N := 10) (v := .ref (A (b + 7))) 0 0 2 rfl rfl rfl inX3_copyFrom_X3 (by decide) (List.mem_of_getElem? (i := 3) rfl) rfl rfl dX3_copyFrom_23 ?_
  refine lv_aload_n hx hb dX3_copyFrom_26 rfl (lv_at hl 1 rfl) ?_
  refine r_get C hW (K := RX3) (T := TX3) (N := 10) (v := .ref (A2 (b2 + 7))) 6 0 2 rfl rfl rfl inX3_copyFrom_X3 (by decide) (List.mem_of_getElem? (i := 3) rfl) rfl rfl dX3_copyFrom_27 ?_
  obtain ⟨t5, h6, h⟩ := q_b h
  refine r_cVv C hW (nA := 1) (As := [.ref (A2 (b2 + 7))]) (rest := []) (c_X4_copyFrom l g A (b + 7) A2 (b2 + 7) x.2.2.1 y.2.2.1 _ h6) gX3_copyFrom_X4_copyFrom rfl ⟨rfl, wo_X4_copyFrom⟩ (rmk hR rfl rfl) rfl rfl rfl rfl hl.1 (Nat.le_of_ble_eq_true rfl) rz dX3_copyFrom_30 (n := 12) (is := [3, 9]) (rs := [0, 1, 2, 4, 5, 6, 7, 8, 10, 11]) (bs' := [[(A b, .inr (3, [.ref (A (b + 1)), .ref (A (b + 4)), .ref (A (b + 7)), .ref (A (b + 10)), .ref (A (b + 11)), .int x.2.2.2.2.2.1, .int x.2.2.2.2.2.2.1, .int x.2.2.2.2.2.2.2.1, .int x.2.2.2.2.2.2.2.2.1, .int x.2.2.2.2.2.2.2.2.2]))], wX4 g A (b + 1) t1, wX4 g A (b + 4) t3, wX4 g A (b + 7) t5, [(A (b + 10), .inl (gI g, 3, .inl x.2.2.2.1))], [(A (b + 11), .inl (gI g, 2, .inl x.2.2.2.2.1))], [(A2 b2, .inr (3, [.ref (A2 (b2 + 1)), .ref (A2 (b2 + 4)), .ref (A2 (b2 + 7)), .ref (A2 (b2 + 10)), .ref (A2 (b2 + 11)), .int y.2.2.2.2.2.1, .int y.2.2.2.2.2.2.1, .int y.2.2.2.2.2.2.2.1, .int y.2.2.2.2.2.2.2.2.1, .int y.2.2.2.2.2.2.2.2.2]))], wX4 g A2 (b2 + 1) y.1, wX4 g A2 (b2 + 4) y.2.1, wX4 g A2 (b2 + 7) y.2.2.1, [(A2 (b2 + 10), .inl (gI g, 3, .inl y.2.2.2.1))], [(A2 (b2 + 11), .inl (gI g, 2, .inl y.2.2.2.2.1))]]) rfl rfl pm_16a30d29 rfl rfl rfl (fun H locs hW => ?_)
  refine lv_aload_n hx hb dX3_copyFrom_33 rfl (lv_at hl 1 rfl) ?_
  refine r_get C hW (K := RX3) (T := TX3) (N := 10) (v := .ref (A2 (b2 + 10))) 6 0 3 rfl rfl rfl inX3_copyFrom_X3 (by decide) (List.mem_of_getElem? (i := 4) rfl) rfl rfl dX3_copyFrom_34 ?_
  refine lv_iconst (v := 0) hx hb dX3_copyFrom_37 (by decide) ?_
  refine lv_aload_n hx hb dX3_copyFrom_38 rfl (lv_at hl 0 rfl) ?_
  refine r_get C hW (K := RX3) (T := TX3) (N := 10) (v := .ref (A (b + 10))) 0 0 3 rfl rfl rfl inX3_copyFrom_X3 (by decide) (List.mem_of_getElem? (i := 4) rfl) rfl rfl dX3_copyFrom_39 ?_
  refine lv_iconst (v := 0) hx hb dX3_copyFrom_42 (by decide) ?_
  refine lv_iconst (v := 3) hx hb dX3_copyFrom_43 (by decide) ?_
  refine r_copy C hW (bs' := [[(A b, .inr (3, [.ref (A (b + 1)), .ref (A (b + 4)), .ref (A (b + 7)), .ref (A (b + 10)), .ref (A (b + 11)), .int x.2.2.2.2.2.1, .int x.2.2.2.2.2.2.1, .int x.2.2.2.2.2.2.2.1, .int x.2.2.2.2.2.2.2.2.1, .int x.2.2.2.2.2.2.2.2.2]))], wX4 g A (b + 1) t1, wX4 g A (b + 4) t3, wX4 g A (b + 7) t5, [(A (b + 10), .inl (gI g, 3, .inl (va_cpy y.2.2.2.1 x.2.2.2.1 (0 : Int32).toNatClampNeg (0 : Int32).toNatClampNeg (3 : Int32).toNatClampNeg)))], [(A (b + 11), .inl (gI g, 2, .inl x.2.2.2.2.1))], [(A2 b2, .inr (3, [.ref (A2 (b2 + 1)), .ref (A2 (b2 + 4)), .ref (A2 (b2 + 7)), .ref (A2 (b2 + 10)), .ref (A2 (b2 + 11)), .int y.2.2.2.2.2.1, .int y.2.2.2.2.2.2.1, .int y.2.2.2.2.2.2.2.1, .int y.2.2.2.2.2.2.2.2.1, .int y.2.2.2.2.2.2.2.2.2]))], wX4 g A2 (b2 + 1) y.1, wX4 g A2 (b2 + 4) y.2.1, wX4 g A2 (b2 + 7) y.2.2.1, [(A2 (b2 + 10), .inl (gI g, 3, .inl y.2.2.2.1))], [(A2 (b2 + 11), .inl (gI g, 2, .inl y.2.2.2.2.1))]]) 10 0 4 0 rfl rfl rfl rfl hl.1.symm (List.mem_of_getElem? (i := 5) rfl) (List.mem_of_getElem? (i := 6) rfl) (List.mem_of_getElem? (i := 7) rfl) (List.mem_of_getElem? (i := 8) rfl) (by decide) (by decide) (by decide) (by decide) (by decide) (rmk hR rfl rfl) dX3_copyFrom_44 rfl (fun H locs hW => ?_)
  refine lv_aload_n hx hb dX3_copyFrom_47 rfl (lv_at hl 1 rfl) ?_
  refine r_get C hW (K := RX3) (T := TX3) (N := 10) (v := .ref (A2 (b2 + 11))) 6 0 4 rfl rfl rfl inX3_copyFrom_X3 (by decide) (List.mem_of_getElem? (i := 9) rfl) rfl rfl dX3_copyFrom_48 ?_
  refine lv_iconst (v := 0) hx hb dX3_copyFrom_51 (by decide) ?_
  refine lv_aload_n hx hb dX3_copyFrom_52 rfl (lv_at hl 0 rfl) ?_
  refine r_get C hW (K := RX3) (T := TX3) (N := 10) (v := .ref (A (b + 11))) 0 0 4 rfl rfl rfl inX3_copyFrom_X3 (by decide) (List.mem_of_getElem? (i := 9) rfl) rfl rfl dX3_copyFrom_53 ?_
  refine lv_iconst (v := 0) hx hb dX3_copyFrom_56 (by decide) ?_
  refine lv_iconst (v := 2) hx hb dX3_copyFrom_57 (by decide) ?_
  refine r_copy C hW (bs' := [[(A b, .inr (3, [.ref (A (b + 1)), .ref (A (b + 4)), .ref (A (b + 7)), .ref (A (b + 10)), .ref (A (b + 11)), .int x.2.2.2.2.2.1, .int x.2.2.2.2.2.2.1, .int x.2.2.2.2.2.2.2.1, .int x.2.2.2.2.2.2.2.2.1, .int x.2.2.2.2.2.2.2.2.2]))], wX4 g A (b + 1) t1, wX4 g A (b + 4) t3, wX4 g A (b + 7) t5, [(A (b + 10), .inl (gI g, 3, .inl (va_cpy y.2.2.2.1 x.2.2.2.1 (0 : Int32).toNatClampNeg (0 : Int32).toNatClampNeg (3 : Int32).toNatClampNeg)))], [(A (b + 11), .inl (gI g, 2, .inl (va_cpy y.2.2.2.2.1 x.2.2.2.2.1 (0 : Int32).toNatClampNeg (0 : Int32).toNatClampNeg (2 : Int32).toNatClampNeg)))], [(A2 b2, .inr (3, [.ref (A2 (b2 + 1)), .ref (A2 (b2 + 4)), .ref (A2 (b2 + 7)), .ref (A2 (b2 + 10)), .ref (A2 (b2 + 11)), .int y.2.2.2.2.2.1, .int y.2.2.2.2.2.2.1, .int y.2.2.2.2.2.2.2.1, .int y.2.2.2.2.2.2.2.2.1, .int y.2.2.2.2.2.2.2.2.2]))], wX4 g A2 (b2 + 1) y.1, wX4 g A2 (b2 + 4) y.2.1, wX4 g A2 (b2 + 7) y.2.2.1, [(A2 (b2 + 10), .inl (gI g, 3, .inl y.2.2.2.1))], [(A2 (b2 + 11), .inl (gI g, 2, .inl y.2.2.2.2.1))]]) 11 0 5 0 rfl rfl rfl rfl hl.1.symm (List.mem_of_getElem? (i := 5) rfl) (List.mem_of_getElem? (i := 6) rfl) (List.mem_of_getElem? (i := 7) rfl) (List.mem_of_getElem? (i := 8) rfl) (by decide) (by decide) (by decide) (by decide) (by decide) (rmk hR rfl rfl) dX3_copyFrom_58 rfl (fun H locs hW => ?_)
  refine lv_aload_n hx hb dX3_copyFrom_61 rfl (lv_at hl 0 rfl) ?_
  refine lv_aload_n hx hb dX3_copyFrom_62 rfl (lv_at hl 1 rfl) ?_
  refine r_get C hW (K := RX3) (T := TX3) (N := 10) (v := .int y.2.2.2.2.2.1) 6 0 5 rfl rfl rfl inX3_copyFrom_X3 (by decide) (List.mem_of_getElem? (i := 10) rfl) rfl rfl dX3_copyFrom_63 ?_
  refine r_put C hW (bs' := [[(A b, .inr (3, [.ref (A (b + 1)), .ref (A (b + 4)), .ref (A (b + 7)), .ref (A (b + 10)), .ref (A (b + 11)), .int y.2.2.2.2.2.1, .int x.2.2.2.2.2.2.1, .int x.2.2.2.2.2.2.2.1, .int x.2.2.2.2.2.2.2.2.1, .int x.2.2.2.2.2.2.2.2.2]))], wX4 g A (b + 1) t1, wX4 g A (b + 4) t3, wX4 g A (b + 7) t5, [(A (b + 10), .inl (gI g, 3, .inl (va_cpy y.2.2.2.1 x.2.2.2.1 (0 : Int32).toNatClampNeg (0 : Int32).toNatClampNeg (3 : Int32).toNatClampNeg)))], [(A (b + 11), .inl (gI g, 2, .inl (va_cpy y.2.2.2.2.1 x.2.2.2.2.1 (0 : Int32).toNatClampNeg (0 : Int32).toNatClampNeg (2 : Int32).toNatClampNeg)))], [(A2 b2, .inr (3, [.ref (A2 (b2 + 1)), .ref (A2 (b2 + 4)), .ref (A2 (b2 + 7)), .ref (A2 (b2 + 10)), .ref (A2 (b2 + 11)), .int y.2.2.2.2.2.1, .int y.2.2.2.2.2.2.1, .int y.2.2.2.2.2.2.2.1, .int y.2.2.2.2.2.2.2.2.1, .int y.2.2.2.2.2.2.2.2.2]))], wX4 g A2 (b2 + 1) y.1, wX4 g A2 (b2 + 4) y.2.1, wX4 g A2 (b2 + 7) y.2.2.1, [(A2 (b2 + 10), .inl (gI g, 3, .inl y.2.2.2.1))], [(A2 (b2 + 11), .inl (gI g, 2, .inl y.2.2.2.2.1))]]) (K := RX3) (T := TX3) (N := 10) 0 0 5 rfl rfl rfl inX3_copyFrom_X3 tyX3 tyX3_ok nmX3 (by decide) (List.mem_of_getElem? (i := 10) rfl) rfl rfl (tyX3_ok 5 (by decide)) rfl rfl (Nat.le_of_ble_eq_true rfl) dX3_copyFrom_66 rfl (fun H locs hW => ?_)
  refine lv_aload_n hx hb dX3_copyFrom_69 rfl (lv_at hl 0 rfl) ?_
  refine lv_aload_n hx hb dX3_copyFrom_70 rfl (lv_at hl 1 rfl) ?_
  refine r_get C hW (K := RX3) (T := TX3) (N := 10) (v := .int y.2.2.2.2.2.2.1) 6 0 6 rfl rfl rfl inX3_copyFrom_X3 (by decide) (List.mem_of_getElem? (i := 11) rfl) rfl rfl dX3_copyFrom_71 ?_
  refine r_put C hW (bs' := [[(A b, .inr (3, [.ref (A (b + 1)), .ref (A (b + 4)), .ref (A (b + 7)), .ref (A (b + 10)), .ref (A (b + 11)), .int y.2.2.2.2.2.1, .int y.2.2.2.2.2.2.1, .int x.2.2.2.2.2.2.2.1, .int x.2.2.2.2.2.2.2.2.1, .int x.2.2.2.2.2.2.2.2.2]))], wX4 g A (b + 1) t1, wX4 g A (b + 4) t3, wX4 g A (b + 7) t5, [(A (b + 10), .inl (gI g, 3, .inl (va_cpy y.2.2.2.1 x.2.2.2.1 (0 : Int32).toNatClampNeg (0 : Int32).toNatClampNeg (3 : Int32).toNatClampNeg)))], [(A (b + 11), .inl (gI g, 2, .inl (va_cpy y.2.2.2.2.1 x.2.2.2.2.1 (0 : Int32).toNatClampNeg (0 : Int32).toNatClampNeg (2 : Int32).toNatClampNeg)))], [(A2 b2, .inr (3, [.ref (A2 (b2 + 1)), .ref (A2 (b2 + 4)), .ref (A2 (b2 + 7)), .ref (A2 (b2 + 10)), .ref (A2 (b2 + 11)), .int y.2.2.2.2.2.1, .int y.2.2.2.2.2.2.1, .int y.2.2.2.2.2.2.2.1, .int y.2.2.2.2.2.2.2.2.1, .int y.2.2.2.2.2.2.2.2.2]))], wX4 g A2 (b2 + 1) y.1, wX4 g A2 (b2 + 4) y.2.1, wX4 g A2 (b2 + 7) y.2.2.1, [(A2 (b2 + 10), .inl (gI g, 3, .inl y.2.2.2.1))], [(A2 (b2 + 11), .inl (gI g, 2, .inl y.2.2.2.2.1))]]) (K := RX3) (T := TX3) (N := 10) 0 0 6 rfl rfl rfl inX3_copyFrom_X3 tyX3 tyX3_ok nmX3 (by decide) (List.mem_of_getElem? (i := 11) rfl) rfl rfl (tyX3_ok 6 (by decide)) rfl rfl (Nat.le_of_ble_eq_true rfl) dX3_copyFrom_74 rfl (fun H locs hW => ?_)
  refine lv_aload_n hx hb dX3_copyFrom_77 rfl (lv_at hl 0 rfl) ?_
  refine lv_aload_n hx hb dX3_copyFrom_78 rfl (lv_at hl 1 rfl) ?_
  refine r_get C hW (K := RX3) (T := TX3) (N := 10) (v := .int y.2.2.2.2.2.2.2.1) 6 0 7 rfl rfl rfl inX3_copyFrom_X3 (by decide) (List.mem_of_getElem? (i := 12) rfl) rfl rfl dX3_copyFrom_79 ?_
  refine r_put C hW (bs' := [[(A b, .inr (3, [.ref (A (b + 1)), .ref (A (b + 4)), .ref (A (b + 7)), .ref (A (b + 10)), .ref (A (b + 11)), .int y.2.2.2.2.2.1, .int y.2.2.2.2.2.2.1, .int y.2.2.2.2.2.2.2.1, .int x.2.2.2.2.2.2.2.2.1, .int x.2.2.2.2.2.2.2.2.2]))], wX4 g A (b + 1) t1, wX4 g A (b + 4) t3, wX4 g A (b + 7) t5, [(A (b + 10), .inl (gI g, 3, .inl (va_cpy y.2.2.2.1 x.2.2.2.1 (0 : Int32).toNatClampNeg (0 : Int32).toNatClampNeg (3 : Int32).toNatClampNeg)))], [(A (b + 11), .inl (gI g, 2, .inl (va_cpy y.2.2.2.2.1 x.2.2.2.2.1 (0 : Int32).toNatClampNeg (0 : Int32).toNatClampNeg (2 : Int32).toNatClampNeg)))], [(A2 b2, .inr (3, [.ref (A2 (b2 + 1)), .ref (A2 (b2 + 4)), .ref (A2 (b2 + 7)), .ref (A2 (b2 + 10)), .ref (A2 (b2 + 11)), .int y.2.2.2.2.2.1, .int y.2.2.2.2.2.2.1, .int y.2.2.2.2.2.2.2.1, .int y.2.2.2.2.2.2.2.2.1, .int y.2.2.2.2.2.2.2.2.2]))], wX4 g A2 (b2 + 1) y.1, wX4 g A2 (b2 + 4) y.2.1, wX4 g A2 (b2 + 7) y.2.2.1, [(A2 (b2 + 10), .inl (gI g, 3, .inl y.2.2.2.1))], [(A2 (b2 + 11), .inl (gI g, 2, .inl y.2.2.2.2.1))]]) (K := RX3) (T := TX3) (N := 10) 0 0 7 rfl rfl rfl inX3_copyFrom_X3 tyX3 tyX3_ok nmX3 (by decide) (List.mem_of_getElem? (i := 12) rfl) rfl rfl (tyX3_ok 7 (by decide)) rfl rfl (Nat.le_of_ble_eq_true rfl) dX3_copyFrom_82 rfl (fun H locs hW => ?_)
  refine lv_aload_n hx hb dX3_copyFrom_85 rfl (lv_at hl 0 rfl) ?_
  refine lv_aload_n hx hb dX3_copyFrom_86 rfl (lv_at hl 1 rfl) ?_
  refine r_get C hW (K := RX3) (T := TX3) (N := 10) (v := .int y.2.2.2.2.2.2.2.2.1) 6 0 8 rfl rfl rfl inX3_copyFrom_X3 (by decide) (List.mem_of_getElem? (i := 13) rfl) rfl rfl dX3_copyFrom_87 ?_
  refine r_put C hW (bs' := [[(A b, .inr (3, [.ref (A (b + 1)), .ref (A (b + 4)), .ref (A (b + 7)), .ref (A (b + 10)), .ref (A (b + 11)), .int y.2.2.2.2.2.1, .int y.2.2.2.2.2.2.1, .int y.2.2.2.2.2.2.2.1, .int y.2.2.2.2.2.2.2.2.1, .int x.2.2.2.2.2.2.2.2.2]))], wX4 g A (b + 1) t1, wX4 g A (b + 4) t3, wX4 g A (b + 7) t5, [(A (b + 10), .inl (gI g, 3, .inl (va_cpy y.2.2.2.1 x.2.2.2.1 (0 : Int32).toNatClampNeg (0 : Int32).toNatClampNeg (3 : Int32).toNatClampNeg)))], [(A (b + 11), .inl (gI g, 2, .inl (va_cpy y.2.2.2.2.1 x.2.2.2.2.1 (0 : Int32).toNatClampNeg (0 : Int32).toNatClampNeg (2 : Int32).toNatClampNeg)))], [(A2 b2, .inr (3, [.ref (A2 (b2 + 1)), .ref (A2 (b2 + 4)), .ref (A2 (b2 + 7)), .ref (A2 (b2 + 10)), .ref (A2 (b2 + 11)), .int y.2.2.2.2.2.1, .int y.2.2.2.2.2.2.1, .int y.2.2.2.2.2.2.2.1, .int y.2.2.2.2.2.2.2.2.1, .int y.2.2.2.2.2.2.2.2.2]))], wX4 g A2 (b2 + 1) y.1, wX4 g A2 (b2 + 4) y.2.1, wX4 g A2 (b2 + 7) y.2.2.1, [(A2 (b2 + 10), .inl (gI g, 3, .inl y.2.2.2.1))], [(A2 (b2 + 11), .inl (gI g, 2, .inl y.2.2.2.2.1))]]) (K := RX3) (T := TX3) (N := 10) 0 0 8 rfl rfl rfl inX3_copyFrom_X3 tyX3 tyX3_ok nmX3 (by decide) (List.mem_of_getElem? (i := 13) rfl) rfl rfl (tyX3_ok 8 (by decide)) rfl rfl (Nat.le_of_ble_eq_true rfl) dX3_copyFrom_90 rfl (fun H locs hW => ?_)
  refine lv_aload_n hx hb dX3_copyFrom_93 rfl (lv_at hl 0 rfl) ?_
  refine lv_aload_n hx hb dX3_copyFrom_94 rfl (lv_at hl 1 rfl) ?_
  refine r_get C hW (K := RX3) (T := TX3) (N := 10) (v := .int y.2.2.2.2.2.2.2.2.2) 6 0 9 rfl rfl rfl inX3_copyFrom_X3 (by decide) (List.mem_of_getElem? (i := 14) rfl) rfl rfl dX3_copyFrom_95 ?_
  refine r_put C hW (bs' := [[(A b, .inr (3, [.ref (A (b + 1)), .ref (A (b + 4)), .ref (A (b + 7)), .ref (A (b + 10)), .ref (A (b + 11)), .int y.2.2.2.2.2.1, .int y.2.2.2.2.2.2.1, .int y.2.2.2.2.2.2.2.1, .int y.2.2.2.2.2.2.2.2.1, .int y.2.2.2.2.2.2.2.2.2]))], wX4 g A (b + 1) t1, wX4 g A (b + 4) t3, wX4 g A (b + 7) t5, [(A (b + 10), .inl (gI g, 3, .inl (va_cpy y.2.2.2.1 x.2.2.2.1 (0 : Int32).toNatClampNeg (0 : Int32).toNatClampNeg (3 : Int32).toNatClampNeg)))], [(A (b + 11), .inl (gI g, 2, .inl (va_cpy y.2.2.2.2.1 x.2.2.2.2.1 (0 : Int32).toNatClampNeg (0 : Int32).toNatClampNeg (2 : Int32).toNatClampNeg)))], [(A2 b2, .inr (3, [.ref (A2 (b2 + 1)), .ref (A2 (b2 + 4)), .ref (A2 (b2 + 7)), .ref (A2 (b2 + 10)), .ref (A2 (b2 + 11)), .int y.2.2.2.2.2.1, .int y.2.2.2.2.2.2.1, .int y.2.2.2.2.2.2.2.1, .int y.2.2.2.2.2.2.2.2.1, .int y.2.2.2.2.2.2.2.2.2]))], wX4 g A2 (b2 + 1) y.1, wX4 g A2 (b2 + 4) y.2.1, wX4 g A2 (b2 + 7) y.2.2.1, [(A2 (b2 + 10), .inl (gI g, 3, .inl y.2.2.2.1))], [(A2 (b2 + 11), .inl (gI g, 2, .inl y.2.2.2.2.1))]]) (K := RX3) (T := TX3) (N := 10) 0 0 9 rfl rfl rfl inX3_copyFrom_X3 tyX3 tyX3_ok nmX3 (by decide) (List.mem_of_getElem? (i := 14) rfl) rfl rfl (tyX3_ok 9 (by decide)) rfl rfl (Nat.le_of_ble_eq_true rfl) dX3_copyFrom_98 rfl (fun H locs hW => ?_)
  cases h
  exact E _ _ _ _ _ hW rfl dX3_copyFrom_101
def f_X3_putArrow (x : TX3s) (p1 : Int32) (p2 : Int32) (p3 : Int32) : Option (Int32 × TX3s) :=
(f_X4_paint x.1 p1 p2 p3).bind fun t1 =>
(f_X4_count t1).bind fun t3 =>
some (t3, (t1, x.2.1, x.2.2.1, x.2.2.2.1, x.2.2.2.2.1, x.2.2.2.2.2.1, x.2.2.2.2.2.2.1, x.2.2.2.2.2.2.2.1, x.2.2.2.2.2.2.2.2.1, x.2.2.2.2.2.2.2.2.2))
theorem wo_X3_putArrow : wordsOk yX3_putArrow 3 := by decide +kernel
theorem inX3_putArrow_X3 : ∀ w ∈ wsX30, w ∈ wsX3_putArrow := fun _ h => List.mem_cons_of_mem _ (List.mem_append_left _ (List.mem_append_right _ h))
set_option maxHeartbeats 4000000 in
set_option maxRecDepth 100000 in
theorem c_X3_putArrow (l : Launch) (g : GG) (A : Nat → Nat) (b : Nat) (x : TX3s) (p1 : Int32) (p2 : Int32) (p3 : Int32) (r : Int32) (x' : TX3s) (h : f_X3_putArrow x p1 p2 p3 = some (r, x')) : CI l yX3_putArrow wsX3_putArrow 3 63 g [.ref (A b), .int p1, .int p2, .int p3] (wX3 g A b x) r (wX3 g A b x') := by
  refine CI.mk (own := RX3) (by decide) rfl rfl (Nat.le_of_ble_eq_true rfl) ?_
  intro p e R s m args below meth c Z Q C E hR H hW ls hl
  have hx := C.1.1
  have hb := C.1.2.1
  have hown := C.1.2.2.2.1
  replace hW : WdG g Z s.heap H [] [[(A b, .inr (3, [.ref (A (b + 1)), .ref (A (b + 4)), .ref (A (b + 7)), .ref (A (b + 10)), .ref (A (b + 11)), .int x.2.2.2.2.2.1, .int x.2.2.2.2.2.2.1, .int x.2.2.2.2.2.2.2.1, .int x.2.2.2.2.2.2.2.2.1, .int x.2.2.2.2.2.2.2.2.2]))], wX4 g A (b + 1) x.1, wX4 g A (b + 4) x.2.1, wX4 g A (b + 7) x.2.2.1, [(A (b + 10), .inl (gI g, 3, .inl x.2.2.2.1))], [(A (b + 11), .inl (gI g, 2, .inl x.2.2.2.2.1))]] := hW.re rfl
  replace hl : lv_has ls 4 [(0, .ref (A b)), (1, .int p1), (2, .int p2), (3, .int p3)] := hl
  unfold f_X3_putArrow at h
  refine lv_aload_n hx hb dX3_putArrow_0 rfl (lv_at hl 0 rfl) ?_
  refine r_get C hW (K := RX3) (T := TX3) (N := 10) (v := .ref (A (b + 1))) 0 0 0 rfl rfl rfl inX3_putArrow_X3 (by decide) (List.mem_of_getElem? (i := 1) rfl) rfl rfl dX3_putArrow_1 ?_
  refine lv_iload_n hx hb dX3_putArrow_4 rfl (lv_at hl 1 rfl) ?_
  refine lv_iload_n hx hb dX3_putArrow_5 rfl (lv_at hl 2 rfl) ?_
  refine lv_iload_n hx hb dX3_putArrow_6 rfl (lv_at hl 3 rfl) ?_
  obtain ⟨t1, h2, h⟩ := q_b h
  refine r_cVv C hW (nA := 3) (As := [.int p1, .int p2, .int p3]) (rest := []) (c_X4_paint l g A (b + 1) x.1 p1 p2 p3 _ h2) gX3_putArrow_X4_paint rfl ⟨rfl, wo_X4_paint⟩ (rmk hR rfl rfl) rfl rfl rfl rfl hl.1 (Nat.le_of_ble_eq_true rfl) rz dX3_putArrow_7 (n := 6) (is := [1]) (rs := [0, 2, 3, 4, 5]) (bs' := [[(A b, .inr (3, [.ref (A (b + 1)), .ref (A (b + 4)), .ref (A (b + 7)), .ref (A (b + 10)), .ref (A (b + 11)), .int x.2.2.2.2.2.1, .int x.2.2.2.2.2.2.1, .int x.2.2.2.2.2.2.2.1, .int x.2.2.2.2.2.2.2.2.1, .int x.2.2.2.2.2.2.2.2.2]))], wX4 g A (b + 1) t1, wX4 g A (b + 4) x.2.1, wX4 g A (b + 7) x.2.2.1, [(A (b + 10), .inl (gI g, 3, .inl x.2.2.2.1))], [(A (b + 11), .inl (gI g, 2, .inl x.2.2.2.2.1))]]) rfl rfl pm_5f1b36ad (List.append_nil _) (List.append_nil _) rfl (fun H locs hW => ?_)
  refine lv_aload_n hx hb dX3_putArrow_10 rfl (lv_at hl 0 rfl) ?_
  refine r_get C hW (K := RX3) (T := TX3) (N := 10) (v := .ref (A (b + 1))) 0 0 0 rfl rfl rfl inX3_putArrow_X3 (by decide) (List.mem_of_getElem? (i := 1) rfl) rfl rfl dX3_putArrow_11 ?_
  obtain ⟨t3, h4, h⟩ := q_b h
  refine r_cVi C hW (nA := 0) (As := []) (rest := []) (c_X4_count l g A (b + 1) t1 _ h4) gX3_putArrow_X4_count rfl ⟨rfl, wo_X4_count⟩ (rmk hR rfl rfl) rfl rfl rfl rfl hl.1 (Nat.le_of_ble_eq_true rfl) rz dX3_putArrow_14 (n := 6) (is := [1]) (rs := [0, 2, 3, 4, 5]) (bs' := [[(A b, .inr (3, [.ref (A (b + 1)), .ref (A (b + 4)), .ref (A (b + 7)), .ref (A (b + 10)), .ref (A (b + 11)), .int x.2.2.2.2.2.1, .int x.2.2.2.2.2.2.1, .int x.2.2.2.2.2.2.2.1, .int x.2.2.2.2.2.2.2.2.1, .int x.2.2.2.2.2.2.2.2.2]))], wX4 g A (b + 1) t1, wX4 g A (b + 4) x.2.1, wX4 g A (b + 7) x.2.2.1, [(A (b + 10), .inl (gI g, 3, .inl x.2.2.2.1))], [(A (b + 11), .inl (gI g, 2, .inl x.2.2.2.2.1))]]) rfl rfl pm_5f1b36ad (List.append_nil _) (List.append_nil _) rfl (fun H locs hW => ?_)
  cases h
  exact E _ _ _ _ _ hW rfl rfl dX3_putArrow_17
def f_X3_putWord (x : TX3s) (p1 : Int32) (p2 : Int32) (p3 : Int32) : Option (Int32 × TX3s) :=
(f_X4_paint x.2.1 p1 p2 p3).bind fun t1 =>
(f_X4_count t1).bind fun t3 =>
some (t3, (x.1, t1, x.2.2.1, x.2.2.2.1, x.2.2.2.2.1, x.2.2.2.2.2.1, x.2.2.2.2.2.2.1, x.2.2.2.2.2.2.2.1, x.2.2.2.2.2.2.2.2.1, x.2.2.2.2.2.2.2.2.2))
theorem wo_X3_putWord : wordsOk yX3_putWord 3 := by decide +kernel
theorem inX3_putWord_X3 : ∀ w ∈ wsX30, w ∈ wsX3_putWord := fun _ h => List.mem_cons_of_mem _ (List.mem_append_left _ (List.mem_append_right _ h))
set_option maxHeartbeats 4000000 in
set_option maxRecDepth 100000 in
theorem c_X3_putWord (l : Launch) (g : GG) (A : Nat → Nat) (b : Nat) (x : TX3s) (p1 : Int32) (p2 : Int32) (p3 : Int32) (r : Int32) (x' : TX3s) (h : f_X3_putWord x p1 p2 p3 = some (r, x')) : CI l yX3_putWord wsX3_putWord 3 63 g [.ref (A b), .int p1, .int p2, .int p3] (wX3 g A b x) r (wX3 g A b x') := by
  refine CI.mk (own := RX3) (by decide) rfl rfl (Nat.le_of_ble_eq_true rfl) ?_
  intro p e R s m args below meth c Z Q C E hR H hW ls hl
  have hx := C.1.1
  have hb := C.1.2.1
  have hown := C.1.2.2.2.1
  replace hW : WdG g Z s.heap H [] [[(A b, .inr (3, [.ref (A (b + 1)), .ref (A (b + 4)), .ref (A (b + 7)), .ref (A (b + 10)), .ref (A (b + 11)), .int x.2.2.2.2.2.1, .int x.2.2.2.2.2.2.1, .int x.2.2.2.2.2.2.2.1, .int x.2.2.2.2.2.2.2.2.1, .int x.2.2.2.2.2.2.2.2.2]))], wX4 g A (b + 1) x.1, wX4 g A (b + 4) x.2.1, wX4 g A (b + 7) x.2.2.1, [(A (b + 10), .inl (gI g, 3, .inl x.2.2.2.1))], [(A (b + 11), .inl (gI g, 2, .inl x.2.2.2.2.1))]] := hW.re rfl
  replace hl : lv_has ls 4 [(0, .ref (A b)), (1, .int p1), (2, .int p2), (3, .int p3)] := hl
  unfold f_X3_putWord at h
  refine lv_aload_n hx hb dX3_putWord_0 rfl (lv_at hl 0 rfl) ?_
  refine r_get C hW (K := RX3) (T := TX3) (N := 10) (v := .ref (A (b + 4))) 0 0 1 rfl rfl rfl inX3_putWord_X3 (by decide) (List.mem_of_getElem? (i := 1) rfl) rfl rfl dX3_putWord_1 ?_
  refine lv_iload_n hx hb dX3_putWord_4 rfl (lv_at hl 1 rfl) ?_
  refine lv_iload_n hx hb dX3_putWord_5 rfl (lv_at hl 2 rfl) ?_
  refine lv_iload_n hx hb dX3_putWord_6 rfl (lv_at hl 3 rfl) ?_
  obtain ⟨t1, h2, h⟩ := q_b h
  refine r_cVv C hW (nA := 3) (As := [.int p1, .int p2, .int p3]) (rest := []) (c_X4_paint l g A (b + 4) x.2.1 p1 p2 p3 _ h2) gX3_putWord_X4_paint rfl ⟨rfl, wo_X4_paint⟩ (rmk hR rfl rfl) rfl rfl rfl rfl hl.1 (Nat.le_of_ble_eq_true rfl) rz dX3_putWord_7 (n := 6) (is := [2]) (rs := [0, 1, 3, 4, 5]) (bs' := [[(A b, .inr (3, [.ref (A (b + 1)), .ref (A (b + 4)), .ref (A (b + 7)), .ref (A (b + 10)), .ref (A (b + 11)), .int x.2.2.2.2.2.1, .int x.2.2.2.2.2.2.1, .int x.2.2.2.2.2.2.2.1, .int x.2.2.2.2.2.2.2.2.1, .int x.2.2.2.2.2.2.2.2.2]))], wX4 g A (b + 1) x.1, wX4 g A (b + 4) t1, wX4 g A (b + 7) x.2.2.1, [(A (b + 10), .inl (gI g, 3, .inl x.2.2.2.1))], [(A (b + 11), .inl (gI g, 2, .inl x.2.2.2.2.1))]]) rfl rfl pm_5105827f (List.append_nil _) (List.append_nil _) rfl (fun H locs hW => ?_)
  refine lv_aload_n hx hb dX3_putWord_10 rfl (lv_at hl 0 rfl) ?_
  refine r_get C hW (K := RX3) (T := TX3) (N := 10) (v := .ref (A (b + 4))) 0 0 1 rfl rfl rfl inX3_putWord_X3 (by decide) (List.mem_of_getElem? (i := 1) rfl) rfl rfl dX3_putWord_11 ?_
  obtain ⟨t3, h4, h⟩ := q_b h
  refine r_cVi C hW (nA := 0) (As := []) (rest := []) (c_X4_count l g A (b + 4) t1 _ h4) gX3_putWord_X4_count rfl ⟨rfl, wo_X4_count⟩ (rmk hR rfl rfl) rfl rfl rfl rfl hl.1 (Nat.le_of_ble_eq_true rfl) rz dX3_putWord_14 (n := 6) (is := [2]) (rs := [0, 1, 3, 4, 5]) (bs' := [[(A b, .inr (3, [.ref (A (b + 1)), .ref (A (b + 4)), .ref (A (b + 7)), .ref (A (b + 10)), .ref (A (b + 11)), .int x.2.2.2.2.2.1, .int x.2.2.2.2.2.2.1, .int x.2.2.2.2.2.2.2.1, .int x.2.2.2.2.2.2.2.2.1, .int x.2.2.2.2.2.2.2.2.2]))], wX4 g A (b + 1) x.1, wX4 g A (b + 4) t1, wX4 g A (b + 7) x.2.2.1, [(A (b + 10), .inl (gI g, 3, .inl x.2.2.2.1))], [(A (b + 11), .inl (gI g, 2, .inl x.2.2.2.2.1))]]) rfl rfl pm_5105827f (List.append_nil _) (List.append_nil _) rfl (fun H locs hW => ?_)
  cases h
  exact E _ _ _ _ _ hW rfl rfl dX3_putWord_17
def f_X3_putDash (x : TX3s) (p1 : Int32) (p2 : Int32) (p3 : Int32) : Option (Int32 × TX3s) :=
(f_X3_dashAt x p1 p2).bind fun t1 =>
if p3 = 0 then (
(f_X4_remove x.2.2.1 p1 p2).bind fun t6 =>
some (t1, (x.1, x.2.1, t6.2, x.2.2.2.1, x.2.2.2.2.1, x.2.2.2.2.2.1, x.2.2.2.2.2.2.1, x.2.2.2.2.2.2.2.1, x.2.2.2.2.2.2.2.2.1, x.2.2.2.2.2.2.2.2.2)))
else (
(f_X4_paint x.2.2.1 p1 p2 p3).bind fun t4 =>
some (t1, (x.1, x.2.1, t4, x.2.2.2.1, x.2.2.2.2.1, x.2.2.2.2.2.1, x.2.2.2.2.2.2.1, x.2.2.2.2.2.2.2.1, x.2.2.2.2.2.2.2.2.1, x.2.2.2.2.2.2.2.2.2)))
theorem wo_X3_putDash : wordsOk yX3_putDash 3 := by decide +kernel
theorem inX3_putDash_X3 : ∀ w ∈ wsX30, w ∈ wsX3_putDash := fun _ h => List.mem_cons_of_mem _ (List.mem_append_left _ (List.mem_append_right _ h))
set_option maxHeartbeats 4000000 in
set_option maxRecDepth 100000 in
theorem c_X3_putDash (l : Launch) (g : GG) (A : Nat → Nat) (b : Nat) (x : TX3s) (p1 : Int32) (p2 : Int32) (p3 : Int32) (r : Int32) (x' : TX3s) (h : f_X3_putDash x p1 p2 p3 = some (r, x')) : CI l yX3_putDash wsX3_putDash 3 76 g [.ref (A b), .int p1, .int p2, .int p3] (wX3 g A b x) r (wX3 g A b x') := by
  refine CI.mk (own := RX3) (by decide) rfl rfl (Nat.le_of_ble_eq_true rfl) ?_
  intro p e R s m args below meth c Z Q C E hR H hW ls hl
  have hx := C.1.1
  have hb := C.1.2.1
  have hown := C.1.2.2.2.1
  replace hW : WdG g Z s.heap H [] [[(A b, .inr (3, [.ref (A (b + 1)), .ref (A (b + 4)), .ref (A (b + 7)), .ref (A (b + 10)), .ref (A (b + 11)), .int x.2.2.2.2.2.1, .int x.2.2.2.2.2.2.1, .int x.2.2.2.2.2.2.2.1, .int x.2.2.2.2.2.2.2.2.1, .int x.2.2.2.2.2.2.2.2.2]))], wX4 g A (b + 1) x.1, wX4 g A (b + 4) x.2.1, wX4 g A (b + 7) x.2.2.1, [(A (b + 10), .inl (gI g, 3, .inl x.2.2.2.1))], [(A (b + 11), .inl (gI g, 2, .inl x.2.2.2.2.1))]] := hW.re rfl
  replace hl : lv_has ls 5 [(0, .ref (A b)), (1, .int p1), (2, .int p2), (3, .int p3)] := hl
  unfold f_X3_putDash at h
  refine lv_aload_n hx hb dX3_putDash_0 rfl (lv_at hl 0 rfl) ?_
  refine lv_iload_n hx hb dX3_putDash_1 rfl (lv_at hl 1 rfl) ?_
  refine lv_iload_n hx hb dX3_putDash_2 rfl (lv_at hl 2 rfl) ?_
  obtain ⟨t1, h2, h⟩ := q_b h
  refine r_cVi C hW (nA := 2) (As := [.int p1, .int p2]) (rest := []) (c_X3_dashAt l g A b x p1 p2 _ h2) gX3_putDash_X3_dashAt rfl ⟨rfl, wo_X3_dashAt⟩ (rmk hR rfl rfl) rfl rfl rfl rfl hl.1 (Nat.le_of_ble_eq_true rfl) rz dX3_putDash_3 (n := 6) (is := [0, 1, 2, 3, 4, 5]) (rs := []) (bs' := [[(A b, .inr (3, [.ref (A (b + 1)), .ref (A (b + 4)), .ref (A (b + 7)), .ref (A (b + 10)), .ref (A (b + 11)), .int x.2.2.2.2.2.1, .int x.2.2.2.2.2.2.1, .int x.2.2.2.2.2.2.2.1, .int x.2.2.2.2.2.2.2.2.1, .int x.2.2.2.2.2.2.2.2.2]))], wX4 g A (b + 1) x.1, wX4 g A (b + 4) x.2.1, wX4 g A (b + 7) x.2.2.1, [(A (b + 10), .inl (gI g, 3, .inl x.2.2.2.1))], [(A (b + 11), .inl (gI g, 2, .inl x.2.2.2.2.1))]]) rfl rfl pm_232c3c4a rfl rfl rfl (fun H locs hW => ?_)
  refine lv_istore (lv' := [(4, .int t1), (0, .ref (A b)), (1, .int p1), (2, .int p2), (3, .int p3)]) hx hb dX3_putDash_6 hl (by decide) rfl (fun ls hl => ?_)
  refine lv_iload_n hx hb dX3_putDash_8 rfl (lv_at hl 4 rfl) ?_
  refine lv_if_ne (tgt := 25) hx hb dX3_putDash_9 (by decide) (fun e3 => ?_) (fun e3 => ?_)
  · replace h := q_f e3 h
    refine lv_aload_n hx hb dX3_putDash_25 rfl (lv_at hl 1 rfl) ?_
    refine r_get C hW (K := RX3) (T := TX3) (N := 10) (v := .ref (A (b + 7))) 0 0 2 rfl rfl rfl inX3_putDash_X3 (by decide) (List.mem_of_getElem? (i := 1) rfl) rfl rfl dX3_putDash_26 ?_
    refine lv_iload_n hx hb dX3_putDash_29 rfl (lv_at hl 2 rfl) ?_
    refine lv_iload_n hx hb dX3_putDash_30 rfl (lv_at hl 3 rfl) ?_
    refine lv_iload_n hx hb dX3_putDash_31 rfl (lv_at hl 4 rfl) ?_
    obtain ⟨t4, h5, h⟩ := q_b h
    refine r_cVv C hW (nA := 3) (As := [.int p1, .int p2, .int p3]) (rest := []) (c_X4_paint l g A (b + 7) x.2.2.1 p1 p2 p3 _ h5) gX3_putDash_X4_paint rfl ⟨rfl, wo_X4_paint⟩ (rmk hR rfl rfl) rfl rfl rfl rfl hl.1 (Nat.le_of_ble_eq_true rfl) rz dX3_putDash_32 (n := 6) (is := [3]) (rs := [0, 1, 2, 4, 5]) (bs' := [[(A b, .inr (3, [.ref (A (b + 1)), .ref (A (b + 4)), .ref (A (b + 7)), .ref (A (b + 10)), .ref (A (b + 11)), .int x.2.2.2.2.2.1, .int x.2.2.2.2.2.2.1, .int x.2.2.2.2.2.2.2.1, .int x.2.2.2.2.2.2.2.2.1, .int x.2.2.2.2.2.2.2.2.2]))], wX4 g A (b + 1) x.1, wX4 g A (b + 4) x.2.1, wX4 g A (b + 7) t4, [(A (b + 10), .inl (gI g, 3, .inl x.2.2.2.1))], [(A (b + 11), .inl (gI g, 2, .inl x.2.2.2.2.1))]]) rfl rfl pm_c3f8ed8c (List.append_nil _) (List.append_nil _) rfl (fun H locs hW => ?_)
    refine lv_iload hx hb dX3_putDash_35 (lv_at hl 0 rfl) ?_
    cases h
    exact E _ _ _ _ _ hW rfl rfl dX3_putDash_37
  · replace h := q_t e3 h
    refine lv_aload_n hx hb dX3_putDash_12 rfl (lv_at hl 1 rfl) ?_
    refine r_get C hW (K := RX3) (T := TX3) (N := 10) (v := .ref (A (b + 7))) 0 0 2 rfl rfl rfl inX3_putDash_X3 (by decide) (List.mem_of_getElem? (i := 1) rfl) rfl rfl dX3_putDash_13 ?_
    refine lv_iload_n hx hb dX3_putDash_16 rfl (lv_at hl 2 rfl) ?_
    refine lv_iload_n hx hb dX3_putDash_17 rfl (lv_at hl 3 rfl) ?_
    obtain ⟨t6, h7, h⟩ := q_b h
    refine r_cVi C hW (nA := 2) (As := [.int p1, .int p2]) (rest := []) (c_X4_remove l g A (b + 7) x.2.2.1 p1 p2 _ _ h7) gX3_putDash_X4_remove rfl ⟨rfl, wo_X4_remove⟩ (rmk hR rfl rfl) rfl rfl rfl rfl hl.1 (Nat.le_of_ble_eq_true rfl) rz dX3_putDash_18 (n := 6) (is := [3]) (rs := [0, 1, 2, 4, 5]) (bs' := [[(A b, .inr (3, [.ref (A (b + 1)), .ref (A (b + 4)), .ref (A (b + 7)), .ref (A (b + 10)), .ref (A (b + 11)), .int x.2.2.2.2.2.1, .int x.2.2.2.2.2.2.1, .int x.2.2.2.2.2.2.2.1, .int x.2.2.2.2.2.2.2.2.1, .int x.2.2.2.2.2.2.2.2.2]))], wX4 g A (b + 1) x.1, wX4 g A (b + 4) x.2.1, wX4 g A (b + 7) t6.2, [(A (b + 10), .inl (gI g, 3, .inl x.2.2.2.1))], [(A (b + 11), .inl (gI g, 2, .inl x.2.2.2.2.1))]]) rfl rfl pm_c3f8ed8c (List.append_nil _) (List.append_nil _) rfl (fun H locs hW => ?_)
    refine lv_pop hx hb dX3_putDash_21 rfl ?_
    refine lv_goto (tgt := 35) hx hb dX3_putDash_22 (by decide) ?_
    refine lv_iload hx hb dX3_putDash_35 (lv_at hl 0 rfl) ?_
    cases h
    exact E _ _ _ _ _ hW rfl rfl dX3_putDash_37
def f_X3_clearCell (x : TX3s) (p1 : Int32) (p2 : Int32) : Option (Int32 × TX3s) :=
(f_X4_remove x.1 p1 p2).bind fun t1 =>
(f_X4_remove x.2.1 p1 p2).bind fun t3 =>
some ((t1.1 + t3.1), (t1.2, t3.2, x.2.2.1, x.2.2.2.1, x.2.2.2.2.1, x.2.2.2.2.2.1, x.2.2.2.2.2.2.1, x.2.2.2.2.2.2.2.1, x.2.2.2.2.2.2.2.2.1, x.2.2.2.2.2.2.2.2.2))
theorem wo_X3_clearCell : wordsOk yX3_clearCell 2 := by decide +kernel
theorem inX3_clearCell_X3 : ∀ w ∈ wsX30, w ∈ wsX3_clearCell := fun _ h => List.mem_cons_of_mem _ (List.mem_append_left _ (List.mem_append_right _ h))
set_option maxHeartbeats 4000000 in
set_option maxRecDepth 100000 in
theorem c_X3_clearCell (l : Launch) (g : GG) (A : Nat → Nat) (b : Nat) (x : TX3s) (p1 : Int32) (p2 : Int32) (r : Int32) (x' : TX3s) (h : f_X3_clearCell x p1 p2 = some (r, x')) : CI l yX3_clearCell wsX3_clearCell 3 76 g [.ref (A b), .int p1, .int p2] (wX3 g A b x) r (wX3 g A b x') := by
  refine CI.mk (own := RX3) (by decide) rfl rfl (Nat.le_of_ble_eq_true rfl) ?_
  intro p e R s m args below meth c Z Q C E hR H hW ls hl
  have hx := C.1.1
  have hb := C.1.2.1
  have hown := C.1.2.2.2.1
  replace hW : WdG g Z s.heap H [] [[(A b, .inr (3, [.ref (A (b + 1)), .ref (A (b + 4)), .ref (A (b + 7)), .ref (A (b + 10)), .ref (A (b + 11)), .int x.2.2.2.2.2.1, .int x.2.2.2.2.2.2.1, .int x.2.2.2.2.2.2.2.1, .int x.2.2.2.2.2.2.2.2.1, .int x.2.2.2.2.2.2.2.2.2]))], wX4 g A (b + 1) x.1, wX4 g A (b + 4) x.2.1, wX4 g A (b + 7) x.2.2.1, [(A (b + 10), .inl (gI g, 3, .inl x.2.2.2.1))], [(A (b + 11), .inl (gI g, 2, .inl x.2.2.2.2.1))]] := hW.re rfl
  replace hl : lv_has ls 3 [(0, .ref (A b)), (1, .int p1), (2, .int p2)] := hl
  unfold f_X3_clearCell at h
  refine lv_aload_n hx hb dX3_clearCell_0 rfl (lv_at hl 0 rfl) ?_
  refine r_get C hW (K := RX3) (T := TX3) (N := 10) (v := .ref (A (b + 1))) 0 0 0 rfl rfl rfl inX3_clearCell_X3 (by decide) (List.mem_of_getElem? (i := 1) rfl) rfl rfl dX3_clearCell_1 ?_
  refine lv_iload_n hx hb dX3_clearCell_4 rfl (lv_at hl 1 rfl) ?_
  refine lv_iload_n hx hb dX3_clearCell_5 rfl (lv_at hl 2 rfl) ?_
  obtain ⟨t1, h2, h⟩ := q_b h
  refine r_cVi C hW (nA := 2) (As := [.int p1, .int p2]) (rest := []) (c_X4_remove l g A (b + 1) x.1 p1 p2 _ _ h2) gX3_clearCell_X4_remove rfl ⟨rfl, wo_X4_remove⟩ (rmk hR rfl rfl) rfl rfl rfl rfl hl.1 (Nat.le_of_ble_eq_true rfl) rz dX3_clearCell_6 (n := 6) (is := [1]) (rs := [0, 2, 3, 4, 5]) (bs' := [[(A b, .inr (3, [.ref (A (b + 1)), .ref (A (b + 4)), .ref (A (b + 7)), .ref (A (b + 10)), .ref (A (b + 11)), .int x.2.2.2.2.2.1, .int x.2.2.2.2.2.2.1, .int x.2.2.2.2.2.2.2.1, .int x.2.2.2.2.2.2.2.2.1, .int x.2.2.2.2.2.2.2.2.2]))], wX4 g A (b + 1) t1.2, wX4 g A (b + 4) x.2.1, wX4 g A (b + 7) x.2.2.1, [(A (b + 10), .inl (gI g, 3, .inl x.2.2.2.1))], [(A (b + 11), .inl (gI g, 2, .inl x.2.2.2.2.1))]]) rfl rfl pm_5f1b36ad (List.append_nil _) (List.append_nil _) rfl (fun H locs hW => ?_)
  refine lv_aload_n hx hb dX3_clearCell_9 rfl (lv_at hl 0 rfl) ?_
  refine r_get C hW (K := RX3) (T := TX3) (N := 10) (v := .ref (A (b + 4))) 0 0 1 rfl rfl rfl inX3_clearCell_X3 (by decide) (List.mem_of_getElem? (i := 2) rfl) rfl rfl dX3_clearCell_10 ?_
  refine lv_iload_n hx hb dX3_clearCell_13 rfl (lv_at hl 1 rfl) ?_
  refine lv_iload_n hx hb dX3_clearCell_14 rfl (lv_at hl 2 rfl) ?_
  obtain ⟨t3, h4, h⟩ := q_b h
  refine r_cVi C hW (nA := 2) (As := [.int p1, .int p2]) (rest := [.int t1.1]) (c_X4_remove l g A (b + 4) x.2.1 p1 p2 _ _ h4) gX3_clearCell_X4_remove rfl ⟨rfl, wo_X4_remove⟩ (rmk hR rfl rfl) rfl rfl rfl rfl hl.1 (Nat.le_of_ble_eq_true rfl) rz dX3_clearCell_15 (n := 6) (is := [2]) (rs := [0, 1, 3, 4, 5]) (bs' := [[(A b, .inr (3, [.ref (A (b + 1)), .ref (A (b + 4)), .ref (A (b + 7)), .ref (A (b + 10)), .ref (A (b + 11)), .int x.2.2.2.2.2.1, .int x.2.2.2.2.2.2.1, .int x.2.2.2.2.2.2.2.1, .int x.2.2.2.2.2.2.2.2.1, .int x.2.2.2.2.2.2.2.2.2]))], wX4 g A (b + 1) t1.2, wX4 g A (b + 4) t3.2, wX4 g A (b + 7) x.2.2.1, [(A (b + 10), .inl (gI g, 3, .inl x.2.2.2.1))], [(A (b + 11), .inl (gI g, 2, .inl x.2.2.2.2.1))]]) rfl rfl pm_5105827f (List.append_nil _) (List.append_nil _) rfl (fun H locs hW => ?_)
  refine lv_iadd hx hb dX3_clearCell_18 ?_
  cases h
  exact E _ _ _ _ _ hW rfl rfl dX3_clearCell_19
def f_X3_changeSetting (x : TX3s) (p1 : Int32) (p2 : Int32) : Option (Int32 × TX3s) :=
if p1 < 0 ∨ 2 ≤ (p1).toNatClampNeg then none else
if p1 < 0 ∨ 2 ≤ (p1).toNatClampNeg then none else
some ((x.2.2.2.2.1 (p1).toNatClampNeg), (x.1, x.2.1, x.2.2.1, x.2.2.2.1, (upd x.2.2.2.2.1 (p1).toNatClampNeg p2), x.2.2.2.2.2.1, x.2.2.2.2.2.2.1, x.2.2.2.2.2.2.2.1, x.2.2.2.2.2.2.2.2.1, x.2.2.2.2.2.2.2.2.2))
theorem wo_X3_changeSetting : wordsOk yX3_changeSetting 2 := by decide +kernel
theorem inX3_changeSetting_X3 : ∀ w ∈ wsX30, w ∈ wsX3_changeSetting := fun _ h => List.mem_cons_of_mem _ (List.mem_append_right _ h)
set_option maxHeartbeats 4000000 in
set_option maxRecDepth 100000 in
theorem c_X3_changeSetting (l : Launch) (g : GG) (A : Nat → Nat) (b : Nat) (x : TX3s) (p1 : Int32) (p2 : Int32) (r : Int32) (x' : TX3s) (h : f_X3_changeSetting x p1 p2 = some (r, x')) : CI l yX3_changeSetting wsX3_changeSetting 0 0 g [.ref (A b), .int p1, .int p2] (wX3 g A b x) r (wX3 g A b x') := by
  refine CI.mk (own := RX3) (by decide) rfl rfl (Nat.le_of_ble_eq_true rfl) ?_
  intro p e R s m args below meth c Z Q C E hR H hW ls hl
  have hx := C.1.1
  have hb := C.1.2.1
  have hown := C.1.2.2.2.1
  replace hW : WdG g Z s.heap H [] [[(A b, .inr (3, [.ref (A (b + 1)), .ref (A (b + 4)), .ref (A (b + 7)), .ref (A (b + 10)), .ref (A (b + 11)), .int x.2.2.2.2.2.1, .int x.2.2.2.2.2.2.1, .int x.2.2.2.2.2.2.2.1, .int x.2.2.2.2.2.2.2.2.1, .int x.2.2.2.2.2.2.2.2.2]))], wX4 g A (b + 1) x.1, wX4 g A (b + 4) x.2.1, wX4 g A (b + 7) x.2.2.1, [(A (b + 10), .inl (gI g, 3, .inl x.2.2.2.1))], [(A (b + 11), .inl (gI g, 2, .inl x.2.2.2.2.1))]] := hW.re rfl
  replace hl : lv_has ls 4 [(0, .ref (A b)), (1, .int p1), (2, .int p2)] := hl
  unfold f_X3_changeSetting at h
  refine lv_aload_n hx hb dX3_changeSetting_0 rfl (lv_at hl 0 rfl) ?_
  refine r_get C hW (K := RX3) (T := TX3) (N := 10) (v := .ref (A (b + 11))) 0 0 4 rfl rfl rfl inX3_changeSetting_X3 (by decide) (List.mem_of_getElem? (i := 1) rfl) rfl rfl dX3_changeSetting_1 ?_
  refine lv_iload_n hx hb dX3_changeSetting_4 rfl (lv_at hl 1 rfl) ?_
  obtain ⟨g1, h⟩ := q_g h
  refine r_iald C hW 5 0 rfl rfl g1 dX3_changeSetting_5 ?_
  refine lv_istore_n (lv' := [(3, .int (x.2.2.2.2.1 (p1).toNatClampNeg)), (0, .ref (A b)), (1, .int p1), (2, .int p2)]) hx hb dX3_changeSetting_6 rfl hl (by decide) rfl (fun ls hl => ?_)
  refine lv_aload_n hx hb dX3_changeSetting_7 rfl (lv_at hl 1 rfl) ?_
  refine r_get C hW (K := RX3) (T := TX3) (N := 10) (v := .ref (A (b + 11))) 0 0 4 rfl rfl rfl inX3_changeSetting_X3 (by decide) (List.mem_of_getElem? (i := 1) rfl) rfl rfl dX3_changeSetting_8 ?_
  refine lv_iload_n hx hb dX3_changeSetting_11 rfl (lv_at hl 2 rfl) ?_
  refine lv_iload_n hx hb dX3_changeSetting_12 rfl (lv_at hl 3 rfl) ?_
  obtain ⟨g2, h⟩ := q_g h
  refine r_iast C hW (bs' := [[(A b, .inr (3, [.ref (A (b + 1)), .ref (A (b + 4)), .ref (A (b + 7)), .ref (A (b + 10)), .ref (A (b + 11)), .int x.2.2.2.2.2.1, .int x.2.2.2.2.2.2.1, .int x.2.2.2.2.2.2.2.1, .int x.2.2.2.2.2.2.2.2.1, .int x.2.2.2.2.2.2.2.2.2]))], wX4 g A (b + 1) x.1, wX4 g A (b + 4) x.2.1, wX4 g A (b + 7) x.2.2.1, [(A (b + 10), .inl (gI g, 3, .inl x.2.2.2.1))], [(A (b + 11), .inl (gI g, 2, .inl (upd x.2.2.2.2.1 (p1).toNatClampNeg p2)))]]) 5 0 rfl rfl g2 dX3_changeSetting_13 rfl (fun H locs hW => ?_)
  refine lv_iload_n hx hb dX3_changeSetting_14 rfl (lv_at hl 0 rfl) ?_
  cases h
  exact E _ _ _ _ _ hW rfl rfl dX3_changeSetting_15
def f_X3_changeTraffic (x : TX3s) (p1 : Int32) (p2 : Int32) : Option (Int32 × TX3s) :=
if p1 < 0 ∨ 3 ≤ (p1).toNatClampNeg then none else
if p1 < 0 ∨ 3 ≤ (p1).toNatClampNeg then none else
some ((x.2.2.2.1 (p1).toNatClampNeg), (x.1, x.2.1, x.2.2.1, (upd x.2.2.2.1 (p1).toNatClampNeg p2), x.2.2.2.2.1, x.2.2.2.2.2.1, x.2.2.2.2.2.2.1, x.2.2.2.2.2.2.2.1, x.2.2.2.2.2.2.2.2.1, x.2.2.2.2.2.2.2.2.2))
theorem wo_X3_changeTraffic : wordsOk yX3_changeTraffic 2 := by decide +kernel
theorem inX3_changeTraffic_X3 : ∀ w ∈ wsX30, w ∈ wsX3_changeTraffic := fun _ h => List.mem_cons_of_mem _ (List.mem_append_right _ h)
set_option maxHeartbeats 4000000 in
set_option maxRecDepth 100000 in
theorem c_X3_changeTraffic (l : Launch) (g : GG) (A : Nat → Nat) (b : Nat) (x : TX3s) (p1 : Int32) (p2 : Int32) (r : Int32) (x' : TX3s) (h : f_X3_changeTraffic x p1 p2 = some (r, x')) : CI l yX3_changeTraffic wsX3_changeTraffic 0 0 g [.ref (A b), .int p1, .int p2] (wX3 g A b x) r (wX3 g A b x') := by
  refine CI.mk (own := RX3) (by decide) rfl rfl (Nat.le_of_ble_eq_true rfl) ?_
  intro p e R s m args below meth c Z Q C E hR H hW ls hl
  have hx := C.1.1
  have hb := C.1.2.1
  have hown := C.1.2.2.2.1
  replace hW : WdG g Z s.heap H [] [[(A b, .inr (3, [.ref (A (b + 1)), .ref (A (b + 4)), .ref (A (b + 7)), .ref (A (b + 10)), .ref (A (b + 11)), .int x.2.2.2.2.2.1, .int x.2.2.2.2.2.2.1, .int x.2.2.2.2.2.2.2.1, .int x.2.2.2.2.2.2.2.2.1, .int x.2.2.2.2.2.2.2.2.2]))], wX4 g A (b + 1) x.1, wX4 g A (b + 4) x.2.1, wX4 g A (b + 7) x.2.2.1, [(A (b + 10), .inl (gI g, 3, .inl x.2.2.2.1))], [(A (b + 11), .inl (gI g, 2, .inl x.2.2.2.2.1))]] := hW.re rfl
  replace hl : lv_has ls 4 [(0, .ref (A b)), (1, .int p1), (2, .int p2)] := hl
  unfold f_X3_changeTraffic at h
  refine lv_aload_n hx hb dX3_changeTraffic_0 rfl (lv_at hl 0 rfl) ?_
  refine r_get C hW (K := RX3) (T := TX3) (N := 10) (v := .ref (A (b + 10))) 0 0 3 rfl rfl rfl inX3_changeTraffic_X3 (by decide) (List.mem_of_getElem? (i := 1) rfl) rfl rfl dX3_changeTraffic_1 ?_
  refine lv_iload_n hx hb dX3_changeTraffic_4 rfl (lv_at hl 1 rfl) ?_
  obtain ⟨g1, h⟩ := q_g h
  refine r_iald C hW 4 0 rfl rfl g1 dX3_changeTraffic_5 ?_
  refine lv_istore_n (lv' := [(3, .int (x.2.2.2.1 (p1).toNatClampNeg)), (0, .ref (A b)), (1, .int p1), (2, .int p2)]) hx hb dX3_changeTraffic_6 rfl hl (by decide) rfl (fun ls hl => ?_)
  refine lv_aload_n hx hb dX3_changeTraffic_7 rfl (lv_at hl 1 rfl) ?_
  refine r_get C hW (K := RX3) (T := TX3) (N := 10) (v := .ref (A (b + 10))) 0 0 3 rfl rfl rfl inX3_changeTraffic_X3 (by decide) (List.mem_of_getElem? (i := 1) rfl) rfl rfl dX3_changeTraffic_8 ?_
  refine lv_iload_n hx hb dX3_changeTraffic_11 rfl (lv_at hl 2 rfl) ?_
  refine lv_iload_n hx hb dX3_changeTraffic_12 rfl (lv_at hl 3 rfl) ?_
  obtain ⟨g2, h⟩ := q_g h
  refine r_iast C hW (bs' := [[(A b, .inr (3, [.ref (A (b + 1)), .ref (A (b + 4)), .ref (A (b + 7)), .ref (A (b + 10)), .ref (A (b + 11)), .int x.2.2.2.2.2.1, .int x.2.2.2.2.2.2.1, .int x.2.2.2.2.2.2.2.1, .int x.2.2.2.2.2.2.2.2.1, .int x.2.2.2.2.2.2.2.2.2]))], wX4 g A (b + 1) x.1, wX4 g A (b + 4) x.2.1, wX4 g A (b + 7) x.2.2.1, [(A (b + 10), .inl (gI g, 3, .inl (upd x.2.2.2.1 (p1).toNatClampNeg p2)))], [(A (b + 11), .inl (gI g, 2, .inl x.2.2.2.2.1))]]) 4 0 rfl rfl g2 dX3_changeTraffic_13 rfl (fun H locs hW => ?_)
  refine lv_iload_n hx hb dX3_changeTraffic_14 rfl (lv_at hl 0 rfl) ?_
  cases h
  exact E _ _ _ _ _ hW rfl rfl dX3_changeTraffic_15
def f_X3_addCans (x : TX3s) (p1 : Int32) : Option (Int32 × TX3s) :=
some ((x.2.2.2.2.2.1 + p1), (x.1, x.2.1, x.2.2.1, x.2.2.2.1, x.2.2.2.2.1, (x.2.2.2.2.2.1 + p1), x.2.2.2.2.2.2.1, x.2.2.2.2.2.2.2.1, x.2.2.2.2.2.2.2.2.1, x.2.2.2.2.2.2.2.2.2))
theorem wo_X3_addCans : wordsOk yX3_addCans 1 := by decide +kernel
theorem inX3_addCans_X3 : ∀ w ∈ wsX30, w ∈ wsX3_addCans := fun _ h => List.mem_cons_of_mem _ (List.mem_append_right _ h)
set_option maxHeartbeats 4000000 in
set_option maxRecDepth 100000 in
theorem c_X3_addCans (l : Launch) (g : GG) (A : Nat → Nat) (b : Nat) (x : TX3s) (p1 : Int32) (r : Int32) (x' : TX3s) (h : f_X3_addCans x p1 = some (r, x')) : CI l yX3_addCans wsX3_addCans 0 0 g [.ref (A b), .int p1] (wX3 g A b x) r (wX3 g A b x') := by
  refine CI.mk (own := RX3) (by decide) rfl rfl (Nat.le_of_ble_eq_true rfl) ?_
  intro p e R s m args below meth c Z Q C E hR H hW ls hl
  have hx := C.1.1
  have hb := C.1.2.1
  have hown := C.1.2.2.2.1
  replace hW : WdG g Z s.heap H [] [[(A b, .inr (3, [.ref (A (b + 1)), .ref (A (b + 4)), .ref (A (b + 7)), .ref (A (b + 10)), .ref (A (b + 11)), .int x.2.2.2.2.2.1, .int x.2.2.2.2.2.2.1, .int x.2.2.2.2.2.2.2.1, .int x.2.2.2.2.2.2.2.2.1, .int x.2.2.2.2.2.2.2.2.2]))], wX4 g A (b + 1) x.1, wX4 g A (b + 4) x.2.1, wX4 g A (b + 7) x.2.2.1, [(A (b + 10), .inl (gI g, 3, .inl x.2.2.2.1))], [(A (b + 11), .inl (gI g, 2, .inl x.2.2.2.2.1))]] := hW.re rfl
  replace hl : lv_has ls 2 [(0, .ref (A b)), (1, .int p1)] := hl
  unfold f_X3_addCans at h
  refine lv_aload_n hx hb dX3_addCans_0 rfl (lv_at hl 0 rfl) ?_
  refine lv_dup hx hb dX3_addCans_1 rfl ?_
  refine r_get C hW (K := RX3) (T := TX3) (N := 10) (v := .int x.2.2.2.2.2.1) 0 0 5 rfl rfl rfl inX3_addCans_X3 (by decide) (List.mem_of_getElem? (i := 1) rfl) rfl rfl dX3_addCans_2 ?_
  refine lv_iload_n hx hb dX3_addCans_5 rfl (lv_at hl 1 rfl) ?_
  refine lv_iadd hx hb dX3_addCans_6 ?_
  refine r_put C hW (bs' := [[(A b, .inr (3, [.ref (A (b + 1)), .ref (A (b + 4)), .ref (A (b + 7)), .ref (A (b + 10)), .ref (A (b + 11)), .int (x.2.2.2.2.2.1 + p1), .int x.2.2.2.2.2.2.1, .int x.2.2.2.2.2.2.2.1, .int x.2.2.2.2.2.2.2.2.1, .int x.2.2.2.2.2.2.2.2.2]))], wX4 g A (b + 1) x.1, wX4 g A (b + 4) x.2.1, wX4 g A (b + 7) x.2.2.1, [(A (b + 10), .inl (gI g, 3, .inl x.2.2.2.1))], [(A (b + 11), .inl (gI g, 2, .inl x.2.2.2.2.1))]]) (K := RX3) (T := TX3) (N := 10) 0 0 5 rfl rfl rfl inX3_addCans_X3 tyX3 tyX3_ok nmX3 (by decide) (List.mem_of_getElem? (i := 1) rfl) rfl rfl (tyX3_ok 5 (by decide)) rfl rfl (Nat.le_of_ble_eq_true rfl) dX3_addCans_7 rfl (fun H locs hW => ?_)
  refine lv_aload_n hx hb dX3_addCans_10 rfl (lv_at hl 0 rfl) ?_
  refine r_get C hW (K := RX3) (T := TX3) (N := 10) (v := .int (x.2.2.2.2.2.1 + p1)) 0 0 5 rfl rfl rfl inX3_addCans_X3 (by decide) (List.mem_of_getElem? (i := 1) rfl) rfl rfl dX3_addCans_11 ?_
  cases h
  exact E _ _ _ _ _ hW rfl rfl dX3_addCans_14
def f_X3_canRead (x : TX3s) (p1 : Int32) (p2 : Int32) : Option (Int32) :=
(f_X4_strengthAt x.2.1 p1 p2).bind fun t1 =>
if (0 : Int32) < 0 ∨ 2 ≤ (0 : Int32).toNatClampNeg then none else
if t1 < (x.2.2.2.2.1 (0 : Int32).toNatClampNeg) then (
some 0)
else (
some 1)
theorem wo_X3_canRead : wordsOk yX3_canRead 2 := by decide +kernel
theorem inX3_canRead_X3 : ∀ w ∈ wsX30, w ∈ wsX3_canRead := fun _ h => List.mem_cons_of_mem _ (List.mem_append_left _ (List.mem_append_right _ h))
set_option maxHeartbeats 4000000 in
set_option maxRecDepth 100000 in
theorem c_X3_canRead (l : Launch) (g : GG) (A : Nat → Nat) (b : Nat) (x : TX3s) (p1 : Int32) (p2 : Int32) (r : Int32) (h : f_X3_canRead x p1 p2 = some r) : CI l yX3_canRead wsX3_canRead 1 22 g [.ref (A b), .int p1, .int p2] (wX3 g A b x) r (wX3 g A b x) := by
  refine CI.mk (own := RX3) (by decide) rfl rfl (Nat.le_of_ble_eq_true rfl) ?_
  intro p e R s m args below meth c Z Q C E hR H hW ls hl
  have hx := C.1.1
  have hb := C.1.2.1
  have hown := C.1.2.2.2.1
  replace hW : WdG g Z s.heap H [] [[(A b, .inr (3, [.ref (A (b + 1)), .ref (A (b + 4)), .ref (A (b + 7)), .ref (A (b + 10)), .ref (A (b + 11)), .int x.2.2.2.2.2.1, .int x.2.2.2.2.2.2.1, .int x.2.2.2.2.2.2.2.1, .int x.2.2.2.2.2.2.2.2.1, .int x.2.2.2.2.2.2.2.2.2]))], wX4 g A (b + 1) x.1, wX4 g A (b + 4) x.2.1, wX4 g A (b + 7) x.2.2.1, [(A (b + 10), .inl (gI g, 3, .inl x.2.2.2.1))], [(A (b + 11), .inl (gI g, 2, .inl x.2.2.2.2.1))]] := hW.re rfl
  replace hl : lv_has ls 3 [(0, .ref (A b)), (1, .int p1), (2, .int p2)] := hl
  unfold f_X3_canRead at h
  refine lv_aload_n hx hb dX3_canRead_0 rfl (lv_at hl 0 rfl) ?_
  refine r_get C hW (K := RX3) (T := TX3) (N := 10) (v := .ref (A (b + 4))) 0 0 1 rfl rfl rfl inX3_canRead_X3 (by decide) (List.mem_of_getElem? (i := 1) rfl) rfl rfl dX3_canRead_1 ?_
  refine lv_iload_n hx hb dX3_canRead_4 rfl (lv_at hl 1 rfl) ?_
  refine lv_iload_n hx hb dX3_canRead_5 rfl (lv_at hl 2 rfl) ?_
  obtain ⟨t1, h2, h⟩ := q_b h
  refine r_cVi C hW (nA := 2) (As := [.int p1, .int p2]) (rest := []) (c_X4_strengthAt l g A (b + 4) x.2.1 p1 p2 _ h2) gX3_canRead_X4_strengthAt rfl ⟨rfl, wo_X4_strengthAt⟩ (rmk hR rfl rfl) rfl rfl rfl rfl hl.1 (Nat.le_of_ble_eq_true rfl) rz dX3_canRead_6 (n := 6) (is := [2]) (rs := [0, 1, 3, 4, 5]) (bs' := [[(A b, .inr (3, [.ref (A (b + 1)), .ref (A (b + 4)), .ref (A (b + 7)), .ref (A (b + 10)), .ref (A (b + 11)), .int x.2.2.2.2.2.1, .int x.2.2.2.2.2.2.1, .int x.2.2.2.2.2.2.2.1, .int x.2.2.2.2.2.2.2.2.1, .int x.2.2.2.2.2.2.2.2.2]))], wX4 g A (b + 1) x.1, wX4 g A (b + 4) x.2.1, wX4 g A (b + 7) x.2.2.1, [(A (b + 10), .inl (gI g, 3, .inl x.2.2.2.1))], [(A (b + 11), .inl (gI g, 2, .inl x.2.2.2.2.1))]]) rfl rfl pm_5105827f (List.append_nil _) (List.append_nil _) rfl (fun H locs hW => ?_)
  refine lv_aload_n hx hb dX3_canRead_9 rfl (lv_at hl 0 rfl) ?_
  refine r_get C hW (K := RX3) (T := TX3) (N := 10) (v := .ref (A (b + 11))) 0 0 4 rfl rfl rfl inX3_canRead_X3 (by decide) (List.mem_of_getElem? (i := 2) rfl) rfl rfl dX3_canRead_10 ?_
  refine lv_iconst (v := 0) hx hb dX3_canRead_13 (by decide) ?_
  obtain ⟨g3, h⟩ := q_g h
  refine r_iald C hW 5 0 rfl rfl g3 dX3_canRead_14 ?_
  refine lv_icmp_lt (tgt := 22) hx hb dX3_canRead_15 (by decide) (fun e4 => ?_) (fun e4 => ?_)
  · replace h := q_t e4 h
    refine lv_iconst (v := 0) hx hb dX3_canRead_22 (by decide) ?_
    cases h
    exact E _ _ _ _ _ hW rfl rfl dX3_canRead_23
  · replace h := q_f e4 h
    refine lv_iconst (v := 1) hx hb dX3_canRead_18 (by decide) ?_
    refine lv_goto (tgt := 23) hx hb dX3_canRead_19 (by decide) ?_
    cases h
    exact E _ _ _ _ _ hW rfl rfl dX3_canRead_23
def f_X3_lossAt_j28 (x : TX3s) (p1 : Int32) (w28 : Int32) : Option (Int32) :=
if w28 = 0 then (
if p1 < 0 ∨ 3 ≤ (p1).toNatClampNeg then none else
some (x.2.2.2.1 (p1).toNatClampNeg))
else (
if p1 < 0 ∨ 3 ≤ (p1).toNatClampNeg then none else
some ((x.2.2.2.1 (p1).toNatClampNeg) / 2))
def f_X3_lossAt_j27 (x : TX3s) (p1 : Int32) (w27 : Unit) : Option (Int32) :=
f_X3_lossAt_j28 x p1 0
def f_X3_lossAt (x : TX3s) (p1 : Int32) (p2 : Int32) : Option (Int32) :=
(f_X3_canRead x p1 p2).bind fun t1 =>
if t1 = 0 then (
f_X3_lossAt_j27 x p1 ())
else (
(f_X4_kindOr x.2.1 p1 p2 2).bind fun t8 =>
if 1 < t8 then (
f_X3_lossAt_j27 x p1 ())
else (
f_X3_lossAt_j28 x p1 1))
theorem wo_X3_lossAt : wordsOk yX3_lossAt 2 := by decide +kernel
theorem inX3_lossAt_X3 : ∀ w ∈ wsX30, w ∈ wsX3_lossAt := fun _ h => List.mem_cons_of_mem _ (List.mem_append_left _ (List.mem_append_right _ h))
set_option maxHeartbeats 4000000 in
set_option maxRecDepth 100000 in
theorem c_X3_lossAt (l : Launch) (g : GG) (A : Nat → Nat) (b : Nat) (x : TX3s) (p1 : Int32) (p2 : Int32) (r : Int32) (h : f_X3_lossAt x p1 p2 = some r) : CI l yX3_lossAt wsX3_lossAt 2 44 g [.ref (A b), .int p1, .int p2] (wX3 g A b x) r (wX3 g A b x) := by
  refine CI.mk (own := RX3) (by decide) rfl rfl (Nat.le_of_ble_eq_true rfl) ?_
  intro p e R s m args below meth c Z Q C E hR H hW ls hl
  have hx := C.1.1
  have hb := C.1.2.1
  have hown := C.1.2.2.2.1
  replace hW : WdG g Z s.heap H [] [[(A b, .inr (3, [.ref (A (b + 1)), .ref (A (b + 4)), .ref (A (b + 7)), .ref (A (b + 10)), .ref (A (b + 11)), .int x.2.2.2.2.2.1, .int x.2.2.2.2.2.2.1, .int x.2.2.2.2.2.2.2.1, .int x.2.2.2.2.2.2.2.2.1, .int x.2.2.2.2.2.2.2.2.2]))], wX4 g A (b + 1) x.1, wX4 g A (b + 4) x.2.1, wX4 g A (b + 7) x.2.2.1, [(A (b + 10), .inl (gI g, 3, .inl x.2.2.2.1))], [(A (b + 11), .inl (gI g, 2, .inl x.2.2.2.2.1))]] := hW.re rfl
  replace hl : lv_has ls 4 [(0, .ref (A b)), (1, .int p1), (2, .int p2)] := hl
  unfold f_X3_lossAt at h
  refine lv_aload_n hx hb dX3_lossAt_0 rfl (lv_at hl 0 rfl) ?_
  refine lv_iload_n hx hb dX3_lossAt_1 rfl (lv_at hl 1 rfl) ?_
  refine lv_iload_n hx hb dX3_lossAt_2 rfl (lv_at hl 2 rfl) ?_
  obtain ⟨t1, h2, h⟩ := q_b h
  refine r_cVi C hW (nA := 2) (As := [.int p1, .int p2]) (rest := []) (c_X3_canRead l g A b x p1 p2 _ h2) gX3_lossAt_X3_canRead rfl ⟨rfl, wo_X3_canRead⟩ (rmk hR rfl rfl) rfl rfl rfl rfl hl.1 (Nat.le_of_ble_eq_true rfl) rz dX3_lossAt_3 (n := 6) (is := [0, 1, 2, 3, 4, 5]) (rs := []) (bs' := [[(A b, .inr (3, [.ref (A (b + 1)), .ref (A (b + 4)), .ref (A (b + 7)), .ref (A (b + 10)), .ref (A (b + 11)), .int x.2.2.2.2.2.1, .int x.2.2.2.2.2.2.1, .int x.2.2.2.2.2.2.2.1, .int x.2.2.2.2.2.2.2.2.1, .int x.2.2.2.2.2.2.2.2.2]))], wX4 g A (b + 1) x.1, wX4 g A (b + 4) x.2.1, wX4 g A (b + 7) x.2.2.1, [(A (b + 10), .inl (gI g, 3, .inl x.2.2.2.1))], [(A (b + 11), .inl (gI g, 2, .inl x.2.2.2.2.1))]]) rfl rfl pm_232c3c4a rfl rfl rfl (fun H locs hW => ?_)
  have J28 : ∀ (w28 : Int32), f_X3_lossAt_j28 x p1 w28 = some r → ∀ (H : Heap) (locs : List Loc), WdG g Z s.heap H locs [[(A b, .inr (3, [.ref (A (b + 1)), .ref (A (b + 4)), .ref (A (b + 7)), .ref (A (b + 10)), .ref (A (b + 11)), .int x.2.2.2.2.2.1, .int x.2.2.2.2.2.2.1, .int x.2.2.2.2.2.2.2.1, .int x.2.2.2.2.2.2.2.2.1, .int x.2.2.2.2.2.2.2.2.2]))], wX4 g A (b + 1) x.1, wX4 g A (b + 4) x.2.1, wX4 g A (b + 7) x.2.2.1, [(A (b + 10), .inl (gI g, 3, .inl x.2.2.2.1))], [(A (b + 11), .inl (gI g, 2, .inl x.2.2.2.2.1))]] → ∀ ls : Array Slot, lv_has ls 4 [(0, .ref (A b)), (1, .int p1)] → W p l e R s m args below meth c H locs 0 0 Q (F0 m 28 ls [.int w28]) := by
    intro w28 h H locs hW ls hl
    unfold f_X3_lossAt_j28 at h
    refine lv_istore_n (lv' := [(3, .int w28), (0, .ref (A b)), (1, .int p1)]) hx hb dX3_lossAt_28 rfl hl (by decide) rfl (fun ls hl => ?_)
    refine lv_iload_n hx hb dX3_lossAt_29 rfl (lv_at hl 0 rfl) ?_
    refine lv_if_eq (tgt := 44) hx hb dX3_lossAt_30 (by decide) (fun e3 => ?_) (fun e3 => ?_)
    · replace h := q_t e3 h
      refine lv_aload_n hx hb dX3_lossAt_44 rfl (lv_at hl 1 rfl) ?_
      refine r_get C hW (K := RX3) (T := TX3) (N := 10) (v := .ref (A (b + 10))) 0 0 3 rfl rfl rfl inX3_lossAt_X3 (by decide) (List.mem_of_getElem? (i := 2) rfl) rfl rfl dX3_lossAt_45 ?_
      refine lv_iload_n hx hb dX3_lossAt_48 rfl (lv_at hl 2 rfl) ?_
      obtain ⟨g4, h⟩ := q_g h
      refine r_iald C hW 4 0 rfl rfl g4 dX3_lossAt_49 ?_
      cases h
      exact E _ _ _ _ _ hW rfl rfl dX3_lossAt_50
    · replace h := q_f e3 h
      refine lv_aload_n hx hb dX3_lossAt_33 rfl (lv_at hl 1 rfl) ?_
      refine r_get C hW (K := RX3) (T := TX3) (N := 10) (v := .ref (A (b + 10))) 0 0 3 rfl rfl rfl inX3_lossAt_X3 (by decide) (List.mem_of_getElem? (i := 2) rfl) rfl rfl dX3_lossAt_34 ?_
      refine lv_iload_n hx hb dX3_lossAt_37 rfl (lv_at hl 2 rfl) ?_
      obtain ⟨g5, h⟩ := q_g h
      refine r_iald C hW 4 0 rfl rfl g5 dX3_lossAt_38 ?_
      refine lv_iconst (v := 2) hx hb dX3_lossAt_39 (by decide) ?_
      have g6 : ¬ (2 : Int32) = 0 := by decide
      refine lv_idiv hx hb dX3_lossAt_40 g6 ?_
      refine lv_goto (tgt := 50) hx hb dX3_lossAt_41 (by decide) ?_
      cases h
      exact E _ _ _ _ _ hW rfl rfl dX3_lossAt_50
  have J27 : ∀ (w27 : Unit), f_X3_lossAt_j27 x p1 w27 = some r → ∀ (H : Heap) (locs : List Loc), WdG g Z s.heap H locs [[(A b, .inr (3, [.ref (A (b + 1)), .ref (A (b + 4)), .ref (A (b + 7)), .ref (A (b + 10)), .ref (A (b + 11)), .int x.2.2.2.2.2.1, .int x.2.2.2.2.2.2.1, .int x.2.2.2.2.2.2.2.1, .int x.2.2.2.2.2.2.2.2.1, .int x.2.2.2.2.2.2.2.2.2]))], wX4 g A (b + 1) x.1, wX4 g A (b + 4) x.2.1, wX4 g A (b + 7) x.2.2.1, [(A (b + 10), .inl (gI g, 3, .inl x.2.2.2.1))], [(A (b + 11), .inl (gI g, 2, .inl x.2.2.2.2.1))]] → ∀ ls : Array Slot, lv_has ls 4 [(0, .ref (A b)), (1, .int p1)] → W p l e R s m args below meth c H locs 0 0 Q (F0 m 27 ls []) := by
    intro w27 h H locs hW ls hl
    unfold f_X3_lossAt_j27 at h
    refine lv_iconst (v := 0) hx hb dX3_lossAt_27 (by decide) ?_
    exact J28 0 h _ _ hW _ (lv_sub hl [0, 1] rfl)
  refine lv_if_eq (tgt := 27) hx hb dX3_lossAt_6 (by decide) (fun e7 => ?_) (fun e7 => ?_)
  · replace h := q_t e7 h
    exact J27 () h _ _ hW _ (lv_sub hl [0, 1] rfl)
  · replace h := q_f e7 h
    refine lv_aload_n hx hb dX3_lossAt_9 rfl (lv_at hl 0 rfl) ?_
    refine r_get C hW (K := RX3) (T := TX3) (N := 10) (v := .ref (A (b + 4))) 0 0 1 rfl rfl rfl inX3_lossAt_X3 (by decide) (List.mem_of_getElem? (i := 1) rfl) rfl rfl dX3_lossAt_10 ?_
    refine lv_iload_n hx hb dX3_lossAt_13 rfl (lv_at hl 1 rfl) ?_
    refine lv_iload_n hx hb dX3_lossAt_14 rfl (lv_at hl 2 rfl) ?_
    refine lv_iconst (v := 2) hx hb dX3_lossAt_15 (by decide) ?_
    obtain ⟨t8, h9, h⟩ := q_b h
    refine r_cVi C hW (nA := 3) (As := [.int p1, .int p2, .int 2]) (rest := []) (c_X4_kindOr l g A (b + 4) x.2.1 p1 p2 2 _ h9) gX3_lossAt_X4_kindOr rfl ⟨rfl, wo_X4_kindOr⟩ (rmk hR rfl rfl) rfl rfl rfl rfl hl.1 (Nat.le_of_ble_eq_true rfl) rz dX3_lossAt_16 (n := 6) (is := [2]) (rs := [0, 1, 3, 4, 5]) (bs' := [[(A b, .inr (3, [.ref (A (b + 1)), .ref (A (b + 4)), .ref (A (b + 7)), .ref (A (b + 10)), .ref (A (b + 11)), .int x.2.2.2.2.2.1, .int x.2.2.2.2.2.2.1, .int x.2.2.2.2.2.2.2.1, .int x.2.2.2.2.2.2.2.2.1, .int x.2.2.2.2.2.2.2.2.2]))], wX4 g A (b + 1) x.1, wX4 g A (b + 4) x.2.1, wX4 g A (b + 7) x.2.2.1, [(A (b + 10), .inl (gI g, 3, .inl x.2.2.2.1))], [(A (b + 11), .inl (gI g, 2, .inl x.2.2.2.2.1))]]) rfl rfl pm_5105827f (List.append_nil _) (List.append_nil _) rfl (fun H locs hW => ?_)
    refine lv_iconst (v := 1) hx hb dX3_lossAt_19 (by decide) ?_
    refine lv_icmp_gt (tgt := 27) hx hb dX3_lossAt_20 (by decide) (fun e10 => ?_) (fun e10 => ?_)
    · replace h := q_t e10 h
      exact J27 () h _ _ hW _ (lv_sub hl [0, 1] rfl)
    · replace h := q_f e10 h
      refine lv_iconst (v := 1) hx hb dX3_lossAt_23 (by decide) ?_
      refine lv_goto (tgt := 28) hx hb dX3_lossAt_24 (by decide) ?_
      exact J28 1 h _ _ hW _ (lv_sub hl [0, 1] rfl)
def f_X3_passDay_l59 (k4 : (Int32 × Int32 × TX3s) → Option (Int32 × TX3s)) (v4 : Int32 × Int32 × TX3s) (k59 : (Int32 × Int32 × TX3s) → Option (Int32 × TX3s)) (v59 : Int32 × Int32 × TX3s) : Option (Int32 × TX3s) :=
if 2 ≤ v59.2.1 then (
k4 (v59.1, (v4.2.1 + 1), v59.2.2))
else (
if v59.2.1 < 0 ∨ 3 ≤ (v59.2.1).toNatClampNeg then none else
if (v59.2.1 + 1) < 0 ∨ 3 ≤ (v59.2.1 + 1).toNatClampNeg then none else
(f_X4_weaken v59.2.2.2.2.1 v59.2.1 v4.2.1 (((v59.2.2.2.2.2.1 (v59.2.1).toNatClampNeg) + (v59.2.2.2.2.2.1 (v59.2.1 + 1).toNatClampNeg)) / 2)).bind fun t7 =>
k59 ((v59.1 + t7.1), (v59.2.1 + 1), (v59.2.2.1, v59.2.2.2.1, t7.2, v59.2.2.2.2.2.1, v59.2.2.2.2.2.2.1, v59.2.2.2.2.2.2.2.1, v59.2.2.2.2.2.2.2.2.1, v59.2.2.2.2.2.2.2.2.2.1, v59.2.2.2.2.2.2.2.2.2.2.1, v59.2.2.2.2.2.2.2.2.2.2.2)))
def f_X3_passDay_l12 (k4 : (Int32 × Int32 × TX3s) → Option (Int32 × TX3s)) (v4 : Int32 × Int32 × TX3s) (k12 : (Int32 × Int32 × TX3s) → Option (Int32 × TX3s)) (v12 : Int32 × Int32 × TX3s) : Option (Int32 × TX3s) :=
if 3 ≤ v12.2.1 then (
lpN (f_X3_passDay_l59 k4 v4) 3000 (v12.1, 0, v12.2.2))
else (
(f_X3_lossAt v12.2.2 v12.2.1 v4.2.1).bind fun t9 =>
(f_X4_weaken v12.2.2.2.1 v12.2.1 v4.2.1 t9).bind fun t11 =>
(f_X4_weaken v12.2.2.1 v12.2.1 v4.2.1 t9).bind fun t13 =>
k12 ((v12.1 + (t11.1 + t13.1)), (v12.2.1 + 1), (t13.2, t11.2, v12.2.2.2.2.1, v12.2.2.2.2.2.1, v12.2.2.2.2.2.2.1, v12.2.2.2.2.2.2.2.1, v12.2.2.2.2.2.2.2.2.1, v12.2.2.2.2.2.2.2.2.2.1, v12.2.2.2.2.2.2.2.2.2.2.1, v12.2.2.2.2.2.2.2.2.2.2.2)))
def f_X3_passDay_l4 (k4 : (Int32 × Int32 × TX3s) → Option (Int32 × TX3s)) (v4 : Int32 × Int32 × TX3s) : Option (Int32 × TX3s) :=
if 16 ≤ v4.2.1 then (
some (v4.1, v4.2.2))
else (
lpN (f_X3_passDay_l12 k4 v4) 3000 (v4.1, 0, v4.2.2))
def f_X3_passDay (x : TX3s) : Option (Int32 × TX3s) :=
lpN f_X3_passDay_l4 3000 (0, 0, x)
theorem wo_X3_passDay : wordsOk yX3_passDay 0 := by decide +kernel
theorem inX3_passDay_X3 : ∀ w ∈ wsX30, w ∈ wsX3_passDay := fun _ h => List.mem_cons_of_mem _ (List.mem_append_left _ (List.mem_append_right _ h))
set_option maxHeartbeats 4000000 in
set_option maxRecDepth 100000 in
theorem c_X3_passDay (l : Launch) (g : GG) (A : Nat → Nat) (b : Nat) (x : TX3s) (r : Int32) (x' : TX3s) (h : f_X3_passDay x = some (r, x')) : CI l yX3_passDay wsX3_passDay 3 67 g [.ref (A b)] (wX3 g A b x) r (wX3 g A b x') := by
  refine CI.mk (own := RX3) (by decide) rfl rfl (Nat.le_of_ble_eq_true rfl) ?_
  intro p e R s m args below meth c Z Q C E hR H hW ls hl
  have hx := C.1.1
  have hb := C.1.2.1
  have hown := C.1.2.2.2.1
  replace hW : WdG g Z s.heap H [] [[(A b, .inr (3, [.ref (A (b + 1)), .ref (A (b + 4)), .ref (A (b + 7)), .ref (A (b + 10)), .ref (A (b + 11)), .int x.2.2.2.2.2.1, .int x.2.2.2.2.2.2.1, .int x.2.2.2.2.2.2.2.1, .int x.2.2.2.2.2.2.2.2.1, .int x.2.2.2.2.2.2.2.2.2]))], wX4 g A (b + 1) x.1, wX4 g A (b + 4) x.2.1, wX4 g A (b + 7) x.2.2.1, [(A (b + 10), .inl (gI g, 3, .inl x.2.2.2.1))], [(A (b + 11), .inl (gI g, 2, .inl x.2.2.2.2.1))]] := hW.re rfl
  replace hl : lv_has ls 5 [(0, .ref (A b))] := hl
  unfold f_X3_passDay at h
  refine lv_iconst (v := 0) hx hb dX3_passDay_0 (by decide) ?_
  refine lv_istore_n (lv' := [(1, .int 0), (0, .ref (A b))]) hx hb dX3_passDay_1 rfl hl (by decide) rfl (fun ls hl => ?_)
  refine lv_iconst (v := 0) hx hb dX3_passDay_2 (by decide) ?_
  refine lv_istore_n (lv' := [(2, .int 0), (1, .int 0), (0, .ref (A b))]) hx hb dX3_passDay_3 rfl hl (by decide) rfl (fun ls hl => ?_)
  have L4 : ∀ n4 : Nat, ∀ (v4 : Int32 × Int32 × TX3s), lpN f_X3_passDay_l4 n4 v4 = some (r, x') → ∀ (H : Heap) (locs : List Loc), WdG g Z s.heap H locs [[(A b, .inr (3, [.ref (A (b + 1)), .ref (A (b + 4)), .ref (A (b + 7)), .ref (A (b + 10)), .ref (A (b + 11)), .int v4.2.2.2.2.2.2.2.1, .int v4.2.2.2.2.2.2.2.2.1, .int v4.2.2.2.2.2.2.2.2.2.1, .int v4.2.2.2.2.2.2.2.2.2.2.1, .int v4.2.2.2.2.2.2.2.2.2.2.2]))], wX4 g A (b + 1) v4.2.2.1, wX4 g A (b + 4) v4.2.2.2.1, wX4 g A (b + 7) v4.2.2.2.2.1, [(A (b + 10), .inl (gI g, 3, .inl v4.2.2.2.2.2.1))], [(A (b + 11), .inl (gI g, 2, .inl v4.2.2.2.2.2.2.1))]] → ∀ ls : Array Slot, lv_has ls 5 [(0, .ref (A b)), (1, .int v4.1), (2, .int v4.2.1)] → W p l e R s m args below meth c H locs 0 0 Q (F0 m 4 ls []) := by
    intro n4
    induction n4 with
    | zero => intro v4 h; exact absurd (show none = some (r, x') from h) (fun h => by cases h)
    | succ n4 ih4 =>
      intro v4 h H locs hW ls hl
      replace h : f_X3_passDay_l4 (lpN f_X3_passDay_l4 n4) v4 = some (r, x') := h
      unfold f_X3_passDay_l4 at h
      refine lv_iload_n hx hb dX3_passDay_4 rfl (lv_at hl 2 rfl) ?_
      refine lv_bipush (v := 16) hx hb dX3_passDay_5 (by decide) ?_
      refine lv_icmp_ge (tgt := 109) hx hb dX3_passDay_7 (by decide) (fun e1 => ?_) (fun e1 => ?_)
      · replace h := q_t e1 h
        refine lv_iload_n hx hb dX3_passDay_109 rfl (lv_at hl 1 rfl) ?_
        cases h
        exact E _ _ _ _ _ hW rfl rfl dX3_passDay_110
      · replace h := q_f e1 h
        refine lv_iconst (v := 0) hx hb dX3_passDay_10 (by decide) ?_
        refine lv_istore_n (lv' := [(3, .int 0), (0, .ref (A b)), (1, .int v4.1), (2, .int v4.2.1)]) hx hb dX3_passDay_11 rfl hl (by decide) rfl (fun ls hl => ?_)
        have L12 : ∀ n12 : Nat, ∀ (v12 : Int32 × Int32 × TX3s), lpN (f_X3_passDay_l12 (lpN f_X3_passDay_l4 n4) v4) n12 v12 = some (r, x') → ∀ (H : Heap) (locs : List Loc), WdG g Z s.heap H locs [[(A b, .inr (3, [.ref (A (b + 1)), .ref (A (b + 4)), .ref (A (b + 7)), .ref (A (b + 10)), .ref (A (b + 11)), .int v12.2.2.2.2.2.2.2.1, .int v12.2.2.2.2.2.2.2.2.1, .int v12.2.2.2.2.2.2.2.2.2.1, .int v12.2.2.2.2.2.2.2.2.2.2.1, .int v12.2.2.2.2.2.2.2.2.2.2.2]))], wX4 g A (b + 1) v12.2.2.1, wX4 g A (b + 4) v12.2.2.2.1, wX4 g A (b + 7) v12.2.2.2.2.1, [(A (b + 10), .inl (gI g, 3, .inl v12.2.2.2.2.2.1))], [(A (b + 11), .inl (gI g, 2, .inl v12.2.2.2.2.2.2.1))]] → ∀ ls : Array Slot, lv_has ls 5 [(0, .ref (A b)), (1, .int v12.1), (2, .int v4.2.1), (3, .int v12.2.1)] → W p l e R s m args below meth c H locs 0 0 Q (F0 m 12 ls []) := by
          intro n12
          induction n12 with
          | zero => intro v12 h; exact absurd (show none = some (r, x') from h) (fun h => by cases h)
          | succ n12 ih12 =>
            intro v12 h H locs hW ls hl
            replace h : f_X3_passDay_l12 (lpN f_X3_passDay_l4 n4) v4 (lpN (f_X3_passDay_l12 (lpN f_X3_passDay_l4 n4) v4) n12) v12 = some (r, x') := h
            unfold f_X3_passDay_l12 at h
            refine lv_iload_n hx hb dX3_passDay_12 rfl (lv_at hl 3 rfl) ?_
            refine lv_iconst (v := 3) hx hb dX3_passDay_13 (by decide) ?_
            refine lv_icmp_ge (tgt := 57) hx hb dX3_passDay_14 (by decide) (fun e2 => ?_) (fun e2 => ?_)
            · replace h := q_t e2 h
              refine lv_iconst (v := 0) hx hb dX3_passDay_57 (by decide) ?_
              refine lv_istore_n (lv' := [(3, .int 0), (0, .ref (A b)), (1, .int v12.1), (2, .int v4.2.1)]) hx hb dX3_passDay_58 rfl hl (by decide) rfl (fun ls hl => ?_)
              have L59 : ∀ n59 : Nat, ∀ (v59 : Int32 × Int32 × TX3s), lpN (f_X3_passDay_l59 (lpN f_X3_passDay_l4 n4) v4) n59 v59 = some (r, x') → ∀ (H : Heap) (locs : List Loc), WdG g Z s.heap H locs [[(A b, .inr (3, [.ref (A (b + 1)), .ref (A (b + 4)), .ref (A (b + 7)), .ref (A (b + 10)), .ref (A (b + 11)), .int v59.2.2.2.2.2.2.2.1, .int v59.2.2.2.2.2.2.2.2.1, .int v59.2.2.2.2.2.2.2.2.2.1, .int v59.2.2.2.2.2.2.2.2.2.2.1, .int v59.2.2.2.2.2.2.2.2.2.2.2]))], wX4 g A (b + 1) v59.2.2.1, wX4 g A (b + 4) v59.2.2.2.1, wX4 g A (b + 7) v59.2.2.2.2.1, [(A (b + 10), .inl (gI g, 3, .inl v59.2.2.2.2.2.1))], [(A (b + 11), .inl (gI g, 2, .inl v59.2.2.2.2.2.2.1))]] → ∀ ls : Array Slot, lv_has ls 5 [(0, .ref (A b)), (1, .int v59.1), (2, .int v4.2.1), (3, .int v59.2.1)] → W p l e R s m args below meth c H locs 0 0 Q (F0 m 59 ls []) := by
                intro n59
                induction n59 with
                | zero => intro v59 h; exact absurd (show none = some (r, x') from h) (fun h => by cases h)
                | succ n59 ih59 =>
                  intro v59 h H locs hW ls hl
                  replace h : f_X3_passDay_l59 (lpN f_X3_passDay_l4 n4) v4 (lpN (f_X3_passDay_l59 (lpN f_X3_passDay_l4 n4) v4) n59) v59 = some (r, x') := h
                  unfold f_X3_passDay_l59 at h
                  refine lv_iload_n hx hb dX3_passDay_59 rfl (lv_at hl 3 rfl) ?_
                  refine lv_iconst (v := 2) hx hb dX3_passDay_60 (by decide) ?_
                  refine lv_icmp_ge (tgt := 103) hx hb dX3_passDay_61 (by decide) (fun e3 => ?_) (fun e3 => ?_)
                  · replace h := q_t e3 h
                    refine lv_iinc (v := (v4.2.1 + 1)) (lv' := [(2, .int (v4.2.1 + 1)), (0, .ref (A b)), (1, .int v59.1), (3, .int v59.2.1)]) hx hb dX3_passDay_103 hl (k := 2) rfl rfl (by decide) rfl (fun ls hl => ?_)
                    refine lv_goto (tgt := 4) hx hb dX3_passDay_106 (by decide) ?_
                    exact ih4 (v59.1, (v4.2.1 + 1), v59.2.2) h _ _ hW _ (lv_sub hl [1, 2, 0] rfl)
                  · replace h := q_f e3 h
                    refine lv_aload_n hx hb dX3_passDay_64 rfl (lv_at hl 0 rfl) ?_
                    refine r_get C hW (K := RX3) (T := TX3) (N := 10) (v := .ref (A (b + 10))) 0 0 3 rfl rfl rfl inX3_passDay_X3 (by decide) (List.mem_of_getElem? (i := 3) rfl) rfl rfl dX3_passDay_65 ?_
                    refine lv_iload_n hx hb dX3_passDay_68 rfl (lv_at hl 3 rfl) ?_
                    obtain ⟨g4, h⟩ := q_g h
                    refine r_iald C hW 4 0 rfl rfl g4 dX3_passDay_69 ?_
                    refine lv_aload_n hx hb dX3_passDay_70 rfl (lv_at hl 0 rfl) ?_
                    refine r_get C hW (K := RX3) (T := TX3) (N := 10) (v := .ref (A (b + 10))) 0 0 3 rfl rfl rfl inX3_passDay_X3 (by decide) (List.mem_of_getElem? (i := 3) rfl) rfl rfl dX3_passDay_71 ?_
                    refine lv_iload_n hx hb dX3_passDay_74 rfl (lv_at hl 3 rfl) ?_
                    refine lv_iconst (v := 1) hx hb dX3_passDay_75 (by decide) ?_
                    refine lv_iadd hx hb dX3_passDay_76 ?_
                    obtain ⟨g5, h⟩ := q_g h
                    refine r_iald C hW 4 0 rfl rfl g5 dX3_passDay_77 ?_
                    refine lv_iadd hx hb dX3_passDay_78 ?_
                    refine lv_iconst (v := 2) hx hb dX3_passDay_79 (by decide) ?_
                    have g6 : ¬ (2 : Int32) = 0 := by decide
                    refine lv_idiv hx hb dX3_passDay_80 g6 ?_
                    refine lv_istore (lv' := [(4, .int (((v59.2.2.2.2.2.1 (v59.2.1).toNatClampNeg) + (v59.2.2.2.2.2.1 (v59.2.1 + 1).toNatClampNeg)) / 2)), (0, .ref (A b)), (1, .int v59.1), (2, .int v4.2.1), (3, .int v59.2.1)]) hx hb dX3_passDay_81 hl (by decide) rfl (fun ls hl => ?_)
                    refine lv_iload_n hx hb dX3_passDay_83 rfl (lv_at hl 2 rfl) ?_
                    refine lv_aload_n hx hb dX3_passDay_84 rfl (lv_at hl 1 rfl) ?_
                    refine r_get C hW (K := RX3) (T := TX3) (N := 10) (v := .ref (A (b + 7))) 0 0 2 rfl rfl rfl inX3_passDay_X3 (by decide) (List.mem_of_getElem? (i := 4) rfl) rfl rfl dX3_passDay_85 ?_
                    refine lv_iload_n hx hb dX3_passDay_88 rfl (lv_at hl 4 rfl) ?_
                    refine lv_iload_n hx hb dX3_passDay_89 rfl (lv_at hl 3 rfl) ?_
                    refine lv_iload hx hb dX3_passDay_90 (lv_at hl 0 rfl) ?_
                    obtain ⟨t7, h8, h⟩ := q_b h
                    refine r_cVi C hW (nA := 3) (As := [.int v59.2.1, .int v4.2.1, .int (((v59.2.2.2.2.2.1 (v59.2.1).toNatClampNeg) + (v59.2.2.2.2.2.1 (v59.2.1 + 1).toNatClampNeg)) / 2)]) (rest := [.int v59.1]) (c_X4_weaken l g A (b + 7) v59.2.2.2.2.1 v59.2.1 v4.2.1 (((v59.2.2.2.2.2.1 (v59.2.1).toNatClampNeg) + (v59.2.2.2.2.2.1 (v59.2.1 + 1).toNatClampNeg)) / 2) _ _ h8) gX3_passDay_X4_weaken rfl ⟨rfl, wo_X4_weaken⟩ (rmk hR rfl rfl) rfl rfl rfl rfl hl.1 (Nat.le_of_ble_eq_true rfl) rz dX3_passDay_92 (n := 6) (is := [3]) (rs := [0, 1, 2, 4, 5]) (bs' := [[(A b, .inr (3, [.ref (A (b + 1)), .ref (A (b + 4)), .ref (A (b + 7)), .ref (A (b + 10)), .ref (A (b + 11)), .int v59.2.2.2.2.2.2.2.1, .int v59.2.2.2.2.2.2.2.2.1, .int v59.2.2.2.2.2.2.2.2.2.1, .int v59.2.2.2.2.2.2.2.2.2.2.1, .int v59.2.2.2.2.2.2.2.2.2.2.2]))], wX4 g A (b + 1) v59.2.2.1, wX4 g A (b + 4) v59.2.2.2.1, wX4 g A (b + 7) t7.2, [(A (b + 10), .inl (gI g, 3, .inl v59.2.2.2.2.2.1))], [(A (b + 11), .inl (gI g, 2, .inl v59.2.2.2.2.2.2.1))]]) rfl rfl pm_c3f8ed8c (List.append_nil _) (List.append_nil _) rfl (fun H locs hW => ?_)
                    refine lv_iadd hx hb dX3_passDay_95 ?_
                    refine lv_istore_n (lv' := [(1, .int (v59.1 + t7.1)), (4, .int (((v59.2.2.2.2.2.1 (v59.2.1).toNatClampNeg) + (v59.2.2.2.2.2.1 (v59.2.1 + 1).toNatClampNeg)) / 2)), (0, .ref (A b)), (2, .int v4.2.1), (3, .int v59.2.1)]) hx hb dX3_passDay_96 rfl hl (by decide) rfl (fun ls hl => ?_)
                    refine lv_iinc (v := (v59.2.1 + 1)) (lv' := [(3, .int (v59.2.1 + 1)), (1, .int (v59.1 + t7.1)), (4, .int (((v59.2.2.2.2.2.1 (v59.2.1).toNatClampNeg) + (v59.2.2.2.2.2.1 (v59.2.1 + 1).toNatClampNeg)) / 2)), (0, .ref (A b)), (2, .int v4.2.1)]) hx hb dX3_passDay_97 hl (k := 4) rfl rfl (by decide) rfl (fun ls hl => ?_)
                    refine lv_goto (tgt := 59) hx hb dX3_passDay_100 (by decide) ?_
                    exact ih59 ((v59.1 + t7.1), (v59.2.1 + 1), (v59.2.2.1, v59.2.2.2.1, t7.2, v59.2.2.2.2.2.1, v59.2.2.2.2.2.2.1, v59.2.2.2.2.2.2.2.1, v59.2.2.2.2.2.2.2.2.1, v59.2.2.2.2.2.2.2.2.2.1, v59.2.2.2.2.2.2.2.2.2.2.1, v59.2.2.2.2.2.2.2.2.2.2.2)) h _ _ hW _ (lv_sub hl [3, 1, 4, 0] rfl)
              exact L59 3000 (v12.1, 0, v12.2.2) h _ _ hW _ (lv_sub hl [1, 2, 3, 0] rfl)
            · replace h := q_f e2 h
              refine lv_aload_n hx hb dX3_passDay_17 rfl (lv_at hl 0 rfl) ?_
              refine lv_iload_n hx hb dX3_passDay_18 rfl (lv_at hl 3 rfl) ?_
              refine lv_iload_n hx hb dX3_passDay_19 rfl (lv_at hl 2 rfl) ?_
              obtain ⟨t9, h10, h⟩ := q_b h
              refine r_cVi C hW (nA := 2) (As := [.int v12.2.1, .int v4.2.1]) (rest := []) (c_X3_lossAt l g A b v12.2.2 v12.2.1 v4.2.1 _ h10) gX3_passDay_X3_lossAt rfl ⟨rfl, wo_X3_lossAt⟩ (rmk hR rfl rfl) rfl rfl rfl rfl hl.1 (Nat.le_of_ble_eq_true rfl) rz dX3_passDay_20 (n := 6) (is := [0, 1, 2, 3, 4, 5]) (rs := []) (bs' := [[(A b, .inr (3, [.ref (A (b + 1)), .ref (A (b + 4)), .ref (A (b + 7)), .ref (A (b + 10)), .ref (A (b + 11)), .int v12.2.2.2.2.2.2.2.1, .int v12.2.2.2.2.2.2.2.2.1, .int v12.2.2.2.2.2.2.2.2.2.1, .int v12.2.2.2.2.2.2.2.2.2.2.1, .int v12.2.2.2.2.2.2.2.2.2.2.2]))], wX4 g A (b + 1) v12.2.2.1, wX4 g A (b + 4) v12.2.2.2.1, wX4 g A (b + 7) v12.2.2.2.2.1, [(A (b + 10), .inl (gI g, 3, .inl v12.2.2.2.2.2.1))], [(A (b + 11), .inl (gI g, 2, .inl v12.2.2.2.2.2.2.1))]]) rfl rfl pm_232c3c4a rfl rfl rfl (fun H locs hW => ?_)
              refine lv_istore (lv' := [(4, .int t9), (0, .ref (A b)), (1, .int v12.1), (2, .int v4.2.1), (3, .int v12.2.1)]) hx hb dX3_passDay_23 hl (by decide) rfl (fun ls hl => ?_)
              refine lv_iload_n hx hb dX3_passDay_25 rfl (lv_at hl 2 rfl) ?_
              refine lv_aload_n hx hb dX3_passDay_26 rfl (lv_at hl 1 rfl) ?_
              refine r_get C hW (K := RX3) (T := TX3) (N := 10) (v := .ref (A (b + 4))) 0 0 1 rfl rfl rfl inX3_passDay_X3 (by decide) (List.mem_of_getElem? (i := 1) rfl) rfl rfl dX3_passDay_27 ?_
              refine lv_iload_n hx hb dX3_passDay_30 rfl (lv_at hl 4 rfl) ?_
              refine lv_iload_n hx hb dX3_passDay_31 rfl (lv_at hl 3 rfl) ?_
              refine lv_iload hx hb dX3_passDay_32 (lv_at hl 0 rfl) ?_
              obtain ⟨t11, h12, h⟩ := q_b h
              refine r_cVi C hW (nA := 3) (As := [.int v12.2.1, .int v4.2.1, .int t9]) (rest := [.int v12.1]) (c_X4_weaken l g A (b + 4) v12.2.2.2.1 v12.2.1 v4.2.1 t9 _ _ h12) gX3_passDay_X4_weaken rfl ⟨rfl, wo_X4_weaken⟩ (rmk hR rfl rfl) rfl rfl rfl rfl hl.1 (Nat.le_of_ble_eq_true rfl) rz dX3_passDay_34 (n := 6) (is := [2]) (rs := [0, 1, 3, 4, 5]) (bs' := [[(A b, .inr (3, [.ref (A (b + 1)), .ref (A (b + 4)), .ref (A (b + 7)), .ref (A (b + 10)), .ref (A (b + 11)), .int v12.2.2.2.2.2.2.2.1, .int v12.2.2.2.2.2.2.2.2.1, .int v12.2.2.2.2.2.2.2.2.2.1, .int v12.2.2.2.2.2.2.2.2.2.2.1, .int v12.2.2.2.2.2.2.2.2.2.2.2]))], wX4 g A (b + 1) v12.2.2.1, wX4 g A (b + 4) t11.2, wX4 g A (b + 7) v12.2.2.2.2.1, [(A (b + 10), .inl (gI g, 3, .inl v12.2.2.2.2.2.1))], [(A (b + 11), .inl (gI g, 2, .inl v12.2.2.2.2.2.2.1))]]) rfl rfl pm_5105827f (List.append_nil _) (List.append_nil _) rfl (fun H locs hW => ?_)
              refine lv_aload_n hx hb dX3_passDay_37 rfl (lv_at hl 1 rfl) ?_
              refine r_get C hW (K := RX3) (T := TX3) (N := 10) (v := .ref (A (b + 1))) 0 0 0 rfl rfl rfl inX3_passDay_X3 (by decide) (List.mem_of_getElem? (i := 2) rfl) rfl rfl dX3_passDay_38 ?_
              refine lv_iload_n hx hb dX3_passDay_41 rfl (lv_at hl 4 rfl) ?_
              refine lv_iload_n hx hb dX3_passDay_42 rfl (lv_at hl 3 rfl) ?_
              refine lv_iload hx hb dX3_passDay_43 (lv_at hl 0 rfl) ?_
              obtain ⟨t13, h14, h⟩ := q_b h
              refine r_cVi C hW (nA := 3) (As := [.int v12.2.1, .int v4.2.1, .int t9]) (rest := [.int t11.1, .int v12.1]) (c_X4_weaken l g A (b + 1) v12.2.2.1 v12.2.1 v4.2.1 t9 _ _ h14) gX3_passDay_X4_weaken rfl ⟨rfl, wo_X4_weaken⟩ (rmk hR rfl rfl) rfl rfl rfl rfl hl.1 (Nat.le_of_ble_eq_true rfl) rz dX3_passDay_45 (n := 6) (is := [1]) (rs := [0, 2, 3, 4, 5]) (bs' := [[(A b, .inr (3, [.ref (A (b + 1)), .ref (A (b + 4)), .ref (A (b + 7)), .ref (A (b + 10)), .ref (A (b + 11)), .int v12.2.2.2.2.2.2.2.1, .int v12.2.2.2.2.2.2.2.2.1, .int v12.2.2.2.2.2.2.2.2.2.1, .int v12.2.2.2.2.2.2.2.2.2.2.1, .int v12.2.2.2.2.2.2.2.2.2.2.2]))], wX4 g A (b + 1) t13.2, wX4 g A (b + 4) t11.2, wX4 g A (b + 7) v12.2.2.2.2.1, [(A (b + 10), .inl (gI g, 3, .inl v12.2.2.2.2.2.1))], [(A (b + 11), .inl (gI g, 2, .inl v12.2.2.2.2.2.2.1))]]) rfl rfl pm_5f1b36ad (List.append_nil _) (List.append_nil _) rfl (fun H locs hW => ?_)
              refine lv_iadd hx hb dX3_passDay_48 ?_
              refine lv_iadd hx hb dX3_passDay_49 ?_
              refine lv_istore_n (lv' := [(1, .int (v12.1 + (t11.1 + t13.1))), (4, .int t9), (0, .ref (A b)), (2, .int v4.2.1), (3, .int v12.2.1)]) hx hb dX3_passDay_50 rfl hl (by decide) rfl (fun ls hl => ?_)
              refine lv_iinc (v := (v12.2.1 + 1)) (lv' := [(3, .int (v12.2.1 + 1)), (1, .int (v12.1 + (t11.1 + t13.1))), (4, .int t9), (0, .ref (A b)), (2, .int v4.2.1)]) hx hb dX3_passDay_51 hl (k := 4) rfl rfl (by decide) rfl (fun ls hl => ?_)
              refine lv_goto (tgt := 12) hx hb dX3_passDay_54 (by decide) ?_
              exact ih12 ((v12.1 + (t11.1 + t13.1)), (v12.2.1 + 1), (t13.2, t11.2, v12.2.2.2.2.1, v12.2.2.2.2.2.1, v12.2.2.2.2.2.2.1, v12.2.2.2.2.2.2.2.1, v12.2.2.2.2.2.2.2.2.1, v12.2.2.2.2.2.2.2.2.2.1, v12.2.2.2.2.2.2.2.2.2.2.1, v12.2.2.2.2.2.2.2.2.2.2.2)) h _ _ hW _ (lv_sub hl [3, 1, 4, 0] rfl)
        exact L12 3000 (v4.1, 0, v4.2.2) h _ _ hW _ (lv_sub hl [1, 2, 3, 0] rfl)
  exact L4 3000 (0, 0, x) h _ _ hW _ (lv_sub hl [2, 1, 0] rfl)
def f_X3_passDays_l4 (p1 : Int32) (k4 : (Int32 × Int32 × TX3s) → Option (Int32 × TX3s)) (v4 : Int32 × Int32 × TX3s) : Option (Int32 × TX3s) :=
if p1 ≤ v4.2.1 then (
some (v4.1, (v4.2.2.1, v4.2.2.2.1, v4.2.2.2.2.1, v4.2.2.2.2.2.1, v4.2.2.2.2.2.2.1, v4.2.2.2.2.2.2.2.1, (v4.2.2.2.2.2.2.2.2.1 + p1), v4.2.2.2.2.2.2.2.2.2.1, v4.2.2.2.2.2.2.2.2.2.2.1, (v4.2.2.2.2.2.2.2.2.2.2.2 + v4.1))))
else (
(f_X3_passDay v4.2.2).bind fun t2 =>
k4 ((v4.1 + t2.1), (v4.2.1 + 1), t2.2))
def f_X3_passDays (x : TX3s) (p1 : Int32) : Option (Int32 × TX3s) :=
lpN (f_X3_passDays_l4 p1) 3000 (0, 0, x)
theorem wo_X3_passDays : wordsOk yX3_passDays 1 := by decide +kernel
theorem inX3_passDays_X3 : ∀ w ∈ wsX30, w ∈ wsX3_passDays := fun _ h => List.mem_cons_of_mem _ (List.mem_append_left _ (List.mem_append_right _ h))
set_option maxHeartbeats 4000000 in
set_option maxRecDepth 100000 in
theorem c_X3_passDays (l : Launch) (g : GG) (A : Nat → Nat) (b : Nat) (x : TX3s) (p1 : Int32) (r : Int32) (x' : TX3s) (h : f_X3_passDays x p1 = some (r, x')) : CI l yX3_passDays wsX3_passDays 4 91 g [.ref (A b), .int p1] (wX3 g A b x) r (wX3 g A b x') := by
  refine CI.mk (own := RX3) (by decide) rfl rfl (Nat.le_of_ble_eq_true rfl) ?_
  intro p e R s m args below meth c Z Q C E hR H hW ls hl
  have hx := C.1.1
  have hb := C.1.2.1
  have hown := C.1.2.2.2.1
  replace hW : WdG g Z s.heap H [] [[(A b, .inr (3, [.ref (A (b + 1)), .ref (A (b + 4)), .ref (A (b + 7)), .ref (A (b + 10)), .ref (A (b + 11)), .int x.2.2.2.2.2.1, .int x.2.2.2.2.2.2.1, .int x.2.2.2.2.2.2.2.1, .int x.2.2.2.2.2.2.2.2.1, .int x.2.2.2.2.2.2.2.2.2]))], wX4 g A (b + 1) x.1, wX4 g A (b + 4) x.2.1, wX4 g A (b + 7) x.2.2.1, [(A (b + 10), .inl (gI g, 3, .inl x.2.2.2.1))], [(A (b + 11), .inl (gI g, 2, .inl x.2.2.2.2.1))]] := hW.re rfl
  replace hl : lv_has ls 4 [(0, .ref (A b)), (1, .int p1)] := hl
  unfold f_X3_passDays at h
  refine lv_iconst (v := 0) hx hb dX3_passDays_0 (by decide) ?_
  refine lv_istore_n (lv' := [(2, .int 0), (0, .ref (A b)), (1, .int p1)]) hx hb dX3_passDays_1 rfl hl (by decide) rfl (fun ls hl => ?_)
  refine lv_iconst (v := 0) hx hb dX3_passDays_2 (by decide) ?_
  refine lv_istore_n (lv' := [(3, .int 0), (2, .int 0), (0, .ref (A b)), (1, .int p1)]) hx hb dX3_passDays_3 rfl hl (by decide) rfl (fun ls hl => ?_)
  have L4 : ∀ n4 : Nat, ∀ (v4 : Int32 × Int32 × TX3s), lpN (f_X3_passDays_l4 p1) n4 v4 = some (r, x') → ∀ (H : Heap) (locs : List Loc), WdG g Z s.heap H locs [[(A b, .inr (3, [.ref (A (b + 1)), .ref (A (b + 4)), .ref (A (b + 7)), .ref (A (b + 10)), .ref (A (b + 11)), .int v4.2.2.2.2.2.2.2.1, .int v4.2.2.2.2.2.2.2.2.1, .int v4.2.2.2.2.2.2.2.2.2.1, .int v4.2.2.2.2.2.2.2.2.2.2.1, .int v4.2.2.2.2.2.2.2.2.2.2.2]))], wX4 g A (b + 1) v4.2.2.1, wX4 g A (b + 4) v4.2.2.2.1, wX4 g A (b + 7) v4.2.2.2.2.1, [(A (b + 10), .inl (gI g, 3, .inl v4.2.2.2.2.2.1))], [(A (b + 11), .inl (gI g, 2, .inl v4.2.2.2.2.2.2.1))]] → ∀ ls : Array Slot, lv_has ls 4 [(0, .ref (A b)), (1, .int p1), (2, .int v4.1), (3, .int v4.2.1)] → W p l e R s m args below meth c H locs 0 0 Q (F0 m 4 ls []) := by
    intro n4
    induction n4 with
    | zero => intro v4 h; exact absurd (show none = some (r, x') from h) (fun h => by cases h)
    | succ n4 ih4 =>
      intro v4 h H locs hW ls hl
      replace h : f_X3_passDays_l4 p1 (lpN (f_X3_passDays_l4 p1) n4) v4 = some (r, x') := h
      unfold f_X3_passDays_l4 at h
      refine lv_iload_n hx hb dX3_passDays_4 rfl (lv_at hl 3 rfl) ?_
      refine lv_iload_n hx hb dX3_passDays_5 rfl (lv_at hl 1 rfl) ?_
      refine lv_icmp_ge (tgt := 22) hx hb dX3_passDays_6 (by decide) (fun e1 => ?_) (fun e1 => ?_)
      · replace h := q_t e1 h
        refine lv_aload_n hx hb dX3_passDays_22 rfl (lv_at hl 0 rfl) ?_
        refine lv_dup hx hb dX3_passDays_23 rfl ?_
        refine r_get C hW (K := RX3) (T := TX3) (N := 10) (v := .int v4.2.2.2.2.2.2.2.2.1) 0 0 6 rfl rfl rfl inX3_passDays_X3 (by decide) (List.mem_of_getElem? (i := 1) rfl) rfl rfl dX3_passDays_24 ?_
        refine lv_iload_n hx hb dX3_passDays_27 rfl (lv_at hl 1 rfl) ?_
        refine lv_iadd hx hb dX3_passDays_28 ?_
        refine r_put C hW (bs' := [[(A b, .inr (3, [.ref (A (b + 1)), .ref (A (b + 4)), .ref (A (b + 7)), .ref (A (b + 10)), .ref (A (b + 11)), .int v4.2.2.2.2.2.2.2.1, .int (v4.2.2.2.2.2.2.2.2.1 + p1), .int v4.2.2.2.2.2.2.2.2.2.1, .int v4.2.2.2.2.2.2.2.2.2.2.1, .int v4.2.2.2.2.2.2.2.2.2.2.2]))], wX4 g A (b + 1) v4.2.2.1, wX4 g A (b + 4) v4.2.2.2.1, wX4 g A (b + 7) v4.2.2.2.2.1, [(A (b + 10), .inl (gI g, 3, .inl v4.2.2.2.2.2.1))], [(A (b + 11), .inl (gI g, 2, .inl v4.2.2.2.2.2.2.1))]]) (K := RX3) (T := TX3) (N := 10) 0 0 6 rfl rfl rfl inX3_passDays_X3 tyX3 tyX3_ok nmX3 (by decide) (List.mem_of_getElem? (i := 1) rfl) rfl rfl (tyX3_ok 6 (by decide)) rfl rfl (Nat.le_of_ble_eq_true rfl) dX3_passDays_29 rfl (fun H locs hW => ?_)
        refine lv_aload_n hx hb dX3_passDays_32 rfl (lv_at hl 0 rfl) ?_
        refine lv_dup hx hb dX3_passDays_33 rfl ?_
        refine r_get C hW (K := RX3) (T := TX3) (N := 10) (v := .int v4.2.2.2.2.2.2.2.2.2.2.2) 0 0 9 rfl rfl rfl inX3_passDays_X3 (by decide) (List.mem_of_getElem? (i := 2) rfl) rfl rfl dX3_passDays_34 ?_
        refine lv_iload_n hx hb dX3_passDays_37 rfl (lv_at hl 2 rfl) ?_
        refine lv_iadd hx hb dX3_passDays_38 ?_
        refine r_put C hW (bs' := [[(A b, .inr (3, [.ref (A (b + 1)), .ref (A (b + 4)), .ref (A (b + 7)), .ref (A (b + 10)), .ref (A (b + 11)), .int v4.2.2.2.2.2.2.2.1, .int (v4.2.2.2.2.2.2.2.2.1 + p1), .int v4.2.2.2.2.2.2.2.2.2.1, .int v4.2.2.2.2.2.2.2.2.2.2.1, .int (v4.2.2.2.2.2.2.2.2.2.2.2 + v4.1)]))], wX4 g A (b + 1) v4.2.2.1, wX4 g A (b + 4) v4.2.2.2.1, wX4 g A (b + 7) v4.2.2.2.2.1, [(A (b + 10), .inl (gI g, 3, .inl v4.2.2.2.2.2.1))], [(A (b + 11), .inl (gI g, 2, .inl v4.2.2.2.2.2.2.1))]]) (K := RX3) (T := TX3) (N := 10) 0 0 9 rfl rfl rfl inX3_passDays_X3 tyX3 tyX3_ok nmX3 (by decide) (List.mem_of_getElem? (i := 2) rfl) rfl rfl (tyX3_ok 9 (by decide)) rfl rfl (Nat.le_of_ble_eq_true rfl) dX3_passDays_39 rfl (fun H locs hW => ?_)
        refine lv_iload_n hx hb dX3_passDays_42 rfl (lv_at hl 2 rfl) ?_
        cases h
        exact E _ _ _ _ _ hW rfl rfl dX3_passDays_43
      · replace h := q_f e1 h
        refine lv_iload_n hx hb dX3_passDays_9 rfl (lv_at hl 2 rfl) ?_
        refine lv_aload_n hx hb dX3_passDays_10 rfl (lv_at hl 0 rfl) ?_
        obtain ⟨t2, h3, h⟩ := q_b h
        refine r_cVi C hW (nA := 0) (As := []) (rest := [.int v4.1]) (c_X3_passDay l g A b v4.2.2 _ _ h3) gX3_passDays_X3_passDay rfl ⟨rfl, wo_X3_passDay⟩ (rmk hR rfl rfl) rfl rfl rfl rfl hl.1 (Nat.le_of_ble_eq_true rfl) rz dX3_passDays_11 (n := 6) (is := [0, 1, 2, 3, 4, 5]) (rs := []) (bs' := [[(A b, .inr (3, [.ref (A (b + 1)), .ref (A (b + 4)), .ref (A (b + 7)), .ref (A (b + 10)), .ref (A (b + 11)), .int t2.2.2.2.2.2.2.1, .int t2.2.2.2.2.2.2.2.1, .int t2.2.2.2.2.2.2.2.2.1, .int t2.2.2.2.2.2.2.2.2.2.1, .int t2.2.2.2.2.2.2.2.2.2.2]))], wX4 g A (b + 1) t2.2.1, wX4 g A (b + 4) t2.2.2.1, wX4 g A (b + 7) t2.2.2.2.1, [(A (b + 10), .inl (gI g, 3, .inl t2.2.2.2.2.1))], [(A (b + 11), .inl (gI g, 2, .inl t2.2.2.2.2.2.1))]]) rfl rfl pm_232c3c4a rfl rfl rfl (fun H locs hW => ?_)
        refine lv_iadd hx hb dX3_passDays_14 ?_
        refine lv_istore_n (lv' := [(2, .int (v4.1 + t2.1)), (0, .ref (A b)), (1, .int p1), (3, .int v4.2.1)]) hx hb dX3_passDays_15 rfl hl (by decide) rfl (fun ls hl => ?_)
        refine lv_iinc (v := (v4.2.1 + 1)) (lv' := [(3, .int (v4.2.1 + 1)), (2, .int (v4.1 + t2.1)), (0, .ref (A b)), (1, .int p1)]) hx hb dX3_passDays_16 hl (k := 3) rfl rfl (by decide) rfl (fun ls hl => ?_)
        refine lv_goto (tgt := 4) hx hb dX3_passDays_19 (by decide) ?_
        exact ih4 ((v4.1 + t2.1), (v4.2.1 + 1), t2.2) h _ _ hW _ (lv_sub hl [2, 3, 1, 0] rfl)
  exact L4 3000 (0, 0, x) h _ _ hW _ (lv_sub hl [2, 3, 1, 0] rfl)
def f_X3_crewLimit (x : TX3s) : Option (Int32) :=
if (1 : Int32) < 0 ∨ 2 ≤ (1 : Int32).toNatClampNeg then none else
some (if (x.2.2.2.2.1 (1 : Int32).toNatClampNeg) < x.2.2.2.2.2.1 then (x.2.2.2.2.1 (1 : Int32).toNatClampNeg) else x.2.2.2.2.2.1)
theorem wo_X3_crewLimit : wordsOk yX3_crewLimit 0 := by decide +kernel
theorem inX3_crewLimit_X3 : ∀ w ∈ wsX30, w ∈ wsX3_crewLimit := fun _ h => List.mem_cons_of_mem _ (List.mem_append_right _ h)
set_option maxHeartbeats 4000000 in
set_option maxRecDepth 100000 in
theorem c_X3_crewLimit (l : Launch) (g : GG) (A : Nat → Nat) (b : Nat) (x : TX3s) (r : Int32) (h : f_X3_crewLimit x = some r) : CI l yX3_crewLimit wsX3_crewLimit 1 30 g [.ref (A b)] (wX3 g A b x) r (wX3 g A b x) := by
  refine CI.mk (own := RX3) (by decide) rfl rfl (Nat.le_of_ble_eq_true rfl) ?_
  intro p e R s m args below meth c Z Q C E hR H hW ls hl
  have hx := C.1.1
  have hb := C.1.2.1
  have hown := C.1.2.2.2.1
  replace hW : WdG g Z s.heap H [] [[(A b, .inr (3, [.ref (A (b + 1)), .ref (A (b + 4)), .ref (A (b + 7)), .ref (A (b + 10)), .ref (A (b + 11)), .int x.2.2.2.2.2.1, .int x.2.2.2.2.2.2.1, .int x.2.2.2.2.2.2.2.1, .int x.2.2.2.2.2.2.2.2.1, .int x.2.2.2.2.2.2.2.2.2]))], wX4 g A (b + 1) x.1, wX4 g A (b + 4) x.2.1, wX4 g A (b + 7) x.2.2.1, [(A (b + 10), .inl (gI g, 3, .inl x.2.2.2.1))], [(A (b + 11), .inl (gI g, 2, .inl x.2.2.2.2.1))]] := hW.re rfl
  replace hl : lv_has ls 1 [(0, .ref (A b))] := hl
  unfold f_X3_crewLimit at h
  refine lv_aload_n hx hb dX3_crewLimit_0 rfl (lv_at hl 0 rfl) ?_
  refine r_get C hW (K := RX3) (T := TX3) (N := 10) (v := .int x.2.2.2.2.2.1) 0 0 5 rfl rfl rfl inX3_crewLimit_X3 (by decide) (List.mem_of_getElem? (i := 1) rfl) rfl rfl dX3_crewLimit_1 ?_
  refine lv_aload_n hx hb dX3_crewLimit_4 rfl (lv_at hl 0 rfl) ?_
  refine r_get C hW (K := RX3) (T := TX3) (N := 10) (v := .ref (A (b + 11))) 0 0 4 rfl rfl rfl inX3_crewLimit_X3 (by decide) (List.mem_of_getElem? (i := 2) rfl) rfl rfl dX3_crewLimit_5 ?_
  refine lv_iconst (v := 1) hx hb dX3_crewLimit_8 (by decide) ?_
  obtain ⟨g1, h⟩ := q_g h
  refine r_iald C hW 5 0 rfl rfl g1 dX3_crewLimit_9 ?_
  refine r_min C hl.1 (List.mem_of_getElem? (i := 3) rfl) (List.mem_of_getElem? (i := 4) rfl) (List.mem_of_getElem? (i := 5) rfl) (List.mem_of_getElem? (i := 6) rfl) (rmk hR rfl rfl) rz dX3_crewLimit_10 ?_
  cases h
  exact E _ _ _ _ _ hW rfl rfl dX3_crewLimit_13
def f_X3_repaintMile (x : TX3s) (p1 : Int32) (p2 : Int32) : Option (Int32 × TX3s) :=
(f_X4_repaintFaded x.2.1 p1 p2).bind fun t1 =>
(f_X4_repaintFaded x.1 p1 (p2 - t1.1)).bind fun t3 =>
(f_X4_repaintFaded x.2.2.1 p1 (p2 - (t1.1 + t3.1))).bind fun t5 =>
some (((t1.1 + t3.1) + t5.1), (t3.2, t1.2, t5.2, x.2.2.2.1, x.2.2.2.2.1, x.2.2.2.2.2.1, x.2.2.2.2.2.2.1, x.2.2.2.2.2.2.2.1, x.2.2.2.2.2.2.2.2.1, x.2.2.2.2.2.2.2.2.2))
theorem wo_X3_repaintMile : wordsOk yX3_repaintMile 2 := by decide +kernel
theorem inX3_repaintMile_X3 : ∀ w ∈ wsX30, w ∈ wsX3_repaintMile := fun _ h => List.mem_cons_of_mem _ (List.mem_append_left _ (List.mem_append_right _ h))
set_option maxHeartbeats 4000000 in
set_option maxRecDepth 100000 in
theorem c_X3_repaintMile (l : Launch) (g : GG) (A : Nat → Nat) (b : Nat) (x : TX3s) (p1 : Int32) (p2 : Int32) (r : Int32) (x' : TX3s) (h : f_X3_repaintMile x p1 p2 = some (r, x')) : CI l yX3_repaintMile wsX3_repaintMile 2 47 g [.ref (A b), .int p1, .int p2] (wX3 g A b x) r (wX3 g A b x') := by
  refine CI.mk (own := RX3) (by decide) rfl rfl (Nat.le_of_ble_eq_true rfl) ?_
  intro p e R s m args below meth c Z Q C E hR H hW ls hl
  have hx := C.1.1
  have hb := C.1.2.1
  have hown := C.1.2.2.2.1
  replace hW : WdG g Z s.heap H [] [[(A b, .inr (3, [.ref (A (b + 1)), .ref (A (b + 4)), .ref (A (b + 7)), .ref (A (b + 10)), .ref (A (b + 11)), .int x.2.2.2.2.2.1, .int x.2.2.2.2.2.2.1, .int x.2.2.2.2.2.2.2.1, .int x.2.2.2.2.2.2.2.2.1, .int x.2.2.2.2.2.2.2.2.2]))], wX4 g A (b + 1) x.1, wX4 g A (b + 4) x.2.1, wX4 g A (b + 7) x.2.2.1, [(A (b + 10), .inl (gI g, 3, .inl x.2.2.2.1))], [(A (b + 11), .inl (gI g, 2, .inl x.2.2.2.2.1))]] := hW.re rfl
  replace hl : lv_has ls 4 [(0, .ref (A b)), (1, .int p1), (2, .int p2)] := hl
  unfold f_X3_repaintMile at h
  refine lv_aload_n hx hb dX3_repaintMile_0 rfl (lv_at hl 0 rfl) ?_
  refine r_get C hW (K := RX3) (T := TX3) (N := 10) (v := .ref (A (b + 4))) 0 0 1 rfl rfl rfl inX3_repaintMile_X3 (by decide) (List.mem_of_getElem? (i := 1) rfl) rfl rfl dX3_repaintMile_1 ?_
  refine lv_iload_n hx hb dX3_repaintMile_4 rfl (lv_at hl 1 rfl) ?_
  refine lv_iload_n hx hb dX3_repaintMile_5 rfl (lv_at hl 2 rfl) ?_
  obtain ⟨t1, h2, h⟩ := q_b h
  refine r_cVi C hW (nA := 2) (As := [.int p1, .int p2]) (rest := []) (c_X4_repaintFaded l g A (b + 4) x.2.1 p1 p2 _ _ h2) gX3_repaintMile_X4_repaintFaded rfl ⟨rfl, wo_X4_repaintFaded⟩ (rmk hR rfl rfl) rfl rfl rfl rfl hl.1 (Nat.le_of_ble_eq_true rfl) rz dX3_repaintMile_6 (n := 6) (is := [2]) (rs := [0, 1, 3, 4, 5]) (bs' := [[(A b, .inr (3, [.ref (A (b + 1)), .ref (A (b + 4)), .ref (A (b + 7)), .ref (A (b + 10)), .ref (A (b + 11)), .int x.2.2.2.2.2.1, .int x.2.2.2.2.2.2.1, .int x.2.2.2.2.2.2.2.1, .int x.2.2.2.2.2.2.2.2.1, .int x.2.2.2.2.2.2.2.2.2]))], wX4 g A (b + 1) x.1, wX4 g A (b + 4) t1.2, wX4 g A (b + 7) x.2.2.1, [(A (b + 10), .inl (gI g, 3, .inl x.2.2.2.1))], [(A (b + 11), .inl (gI g, 2, .inl x.2.2.2.2.1))]]) rfl rfl pm_5105827f (List.append_nil _) (List.append_nil _) rfl (fun H locs hW => ?_)
  refine lv_istore_n (lv' := [(3, .int t1.1), (0, .ref (A b)), (1, .int p1), (2, .int p2)]) hx hb dX3_repaintMile_9 rfl hl (by decide) rfl (fun ls hl => ?_)
  refine lv_iload_n hx hb dX3_repaintMile_10 rfl (lv_at hl 0 rfl) ?_
  refine lv_aload_n hx hb dX3_repaintMile_11 rfl (lv_at hl 1 rfl) ?_
  refine r_get C hW (K := RX3) (T := TX3) (N := 10) (v := .ref (A (b + 1))) 0 0 0 rfl rfl rfl inX3_repaintMile_X3 (by decide) (List.mem_of_getElem? (i := 2) rfl) rfl rfl dX3_repaintMile_12 ?_
  refine lv_iload_n hx hb dX3_repaintMile_15 rfl (lv_at hl 2 rfl) ?_
  refine lv_iload_n hx hb dX3_repaintMile_16 rfl (lv_at hl 3 rfl) ?_
  refine lv_iload_n hx hb dX3_repaintMile_17 rfl (lv_at hl 0 rfl) ?_
  refine lv_isub hx hb dX3_repaintMile_18 ?_
  obtain ⟨t3, h4, h⟩ := q_b h
  refine r_cVi C hW (nA := 2) (As := [.int p1, .int (p2 - t1.1)]) (rest := [.int t1.1]) (c_X4_repaintFaded l g A (b + 1) x.1 p1 (p2 - t1.1) _ _ h4) gX3_repaintMile_X4_repaintFaded rfl ⟨rfl, wo_X4_repaintFaded⟩ (rmk hR rfl rfl) rfl rfl rfl rfl hl.1 (Nat.le_of_ble_eq_true rfl) rz dX3_repaintMile_19 (n := 6) (is := [1]) (rs := [0, 2, 3, 4, 5]) (bs' := [[(A b, .inr (3, [.ref (A (b + 1)), .ref (A (b + 4)), .ref (A (b + 7)), .ref (A (b + 10)), .ref (A (b + 11)), .int x.2.2.2.2.2.1, .int x.2.2.2.2.2.2.1, .int x.2.2.2.2.2.2.2.1, .int x.2.2.2.2.2.2.2.2.1, .int x.2.2.2.2.2.2.2.2.2]))], wX4 g A (b + 1) t3.2, wX4 g A (b + 4) t1.2, wX4 g A (b + 7) x.2.2.1, [(A (b + 10), .inl (gI g, 3, .inl x.2.2.2.1))], [(A (b + 11), .inl (gI g, 2, .inl x.2.2.2.2.1))]]) rfl rfl pm_5f1b36ad (List.append_nil _) (List.append_nil _) rfl (fun H locs hW => ?_)
  refine lv_iadd hx hb dX3_repaintMile_22 ?_
  refine lv_istore_n (lv' := [(3, .int (t1.1 + t3.1)), (0, .ref (A b)), (1, .int p1), (2, .int p2)]) hx hb dX3_repaintMile_23 rfl hl (by decide) rfl (fun ls hl => ?_)
  refine lv_iload_n hx hb dX3_repaintMile_24 rfl (lv_at hl 0 rfl) ?_
  refine lv_aload_n hx hb dX3_repaintMile_25 rfl (lv_at hl 1 rfl) ?_
  refine r_get C hW (K := RX3) (T := TX3) (N := 10) (v := .ref (A (b + 7))) 0 0 2 rfl rfl rfl inX3_repaintMile_X3 (by decide) (List.mem_of_getElem? (i := 3) rfl) rfl rfl dX3_repaintMile_26 ?_
  refine lv_iload_n hx hb dX3_repaintMile_29 rfl (lv_at hl 2 rfl) ?_
  refine lv_iload_n hx hb dX3_repaintMile_30 rfl (lv_at hl 3 rfl) ?_
  refine lv_iload_n hx hb dX3_repaintMile_31 rfl (lv_at hl 0 rfl) ?_
  refine lv_isub hx hb dX3_repaintMile_32 ?_
  obtain ⟨t5, h6, h⟩ := q_b h
  refine r_cVi C hW (nA := 2) (As := [.int p1, .int (p2 - (t1.1 + t3.1))]) (rest := [.int (t1.1 + t3.1)]) (c_X4_repaintFaded l g A (b + 7) x.2.2.1 p1 (p2 - (t1.1 + t3.1)) _ _ h6) gX3_repaintMile_X4_repaintFaded rfl ⟨rfl, wo_X4_repaintFaded⟩ (rmk hR rfl rfl) rfl rfl rfl rfl hl.1 (Nat.le_of_ble_eq_true rfl) rz dX3_repaintMile_33 (n := 6) (is := [3]) (rs := [0, 1, 2, 4, 5]) (bs' := [[(A b, .inr (3, [.ref (A (b + 1)), .ref (A (b + 4)), .ref (A (b + 7)), .ref (A (b + 10)), .ref (A (b + 11)), .int x.2.2.2.2.2.1, .int x.2.2.2.2.2.2.1, .int x.2.2.2.2.2.2.2.1, .int x.2.2.2.2.2.2.2.2.1, .int x.2.2.2.2.2.2.2.2.2]))], wX4 g A (b + 1) t3.2, wX4 g A (b + 4) t1.2, wX4 g A (b + 7) t5.2, [(A (b + 10), .inl (gI g, 3, .inl x.2.2.2.1))], [(A (b + 11), .inl (gI g, 2, .inl x.2.2.2.2.1))]]) rfl rfl pm_c3f8ed8c (List.append_nil _) (List.append_nil _) rfl (fun H locs hW => ?_)
  refine lv_iadd hx hb dX3_repaintMile_36 ?_
  refine lv_istore_n (lv' := [(3, .int ((t1.1 + t3.1) + t5.1)), (0, .ref (A b)), (1, .int p1), (2, .int p2)]) hx hb dX3_repaintMile_37 rfl hl (by decide) rfl (fun ls hl => ?_)
  refine lv_iload_n hx hb dX3_repaintMile_38 rfl (lv_at hl 0 rfl) ?_
  cases h
  exact E _ _ _ _ _ hW rfl rfl dX3_repaintMile_39
def f_X3_workNight_l33 (p1 : Int32) (p2 : Int32) (w10 : Int32) (t1 : Int32) (k33 : (Int32 × Int32 × TX3s) → Option (Int32 × TX3s)) (v33 : Int32 × Int32 × TX3s) : Option (Int32 × TX3s) :=
if ((if 0 ≤ (p2 - p1) then (p2 - p1) else 0 - (p2 - p1)) + 1) ≤ v33.2.1 then (
some (v33.1, (v33.2.2.1, v33.2.2.2.1, v33.2.2.2.2.1, v33.2.2.2.2.2.1, v33.2.2.2.2.2.2.1, (v33.2.2.2.2.2.2.2.1 - v33.1), v33.2.2.2.2.2.2.2.2.1, (v33.2.2.2.2.2.2.2.2.2.1 + 1), (v33.2.2.2.2.2.2.2.2.2.2.1 + v33.1), v33.2.2.2.2.2.2.2.2.2.2.2)))
else (
(f_X3_repaintMile v33.2.2 (p1 + (v33.2.1 * w10)) (t1 - v33.1)).bind fun t4 =>
k33 ((v33.1 + t4.1), (v33.2.1 + 1), t4.2))
def f_X3_workNight_j10 (x : TX3s) (p1 : Int32) (p2 : Int32) (w10 : Int32) : Option (Int32 × TX3s) :=
(f_X3_crewLimit x).bind fun t1 =>
lpN (f_X3_workNight_l33 p1 p2 w10 t1) 3000 (0, 0, x)
def f_X3_workNight (x : TX3s) (p1 : Int32) (p2 : Int32) : Option (Int32 × TX3s) :=
if p2 < p1 then (
f_X3_workNight_j10 x p1 p2 (-1))
else (
f_X3_workNight_j10 x p1 p2 1)
theorem wo_X3_workNight : wordsOk yX3_workNight 2 := by decide +kernel
theorem inX3_workNight_X3 : ∀ w ∈ wsX30, w ∈ wsX3_workNight := fun _ h => List.mem_cons_of_mem _ (List.mem_append_left _ (List.mem_append_right _ h))
set_option maxHeartbeats 4000000 in
set_option maxRecDepth 100000 in
theorem c_X3_workNight (l : Launch) (g : GG) (A : Nat → Nat) (b : Nat) (x : TX3s) (p1 : Int32) (p2 : Int32) (r : Int32) (x' : TX3s) (h : f_X3_workNight x p1 p2 = some (r, x')) : CI l yX3_workNight wsX3_workNight 3 70 g [.ref (A b), .int p1, .int p2] (wX3 g A b x) r (wX3 g A b x') := by
  refine CI.mk (own := RX3) (by decide) rfl rfl (Nat.le_of_ble_eq_true rfl) ?_
  intro p e R s m args below meth c Z Q C E hR H hW ls hl
  have hx := C.1.1
  have hb := C.1.2.1
  have hown := C.1.2.2.2.1
  replace hW : WdG g Z s.heap H [] [[(A b, .inr (3, [.ref (A (b + 1)), .ref (A (b + 4)), .ref (A (b + 7)), .ref (A (b + 10)), .ref (A (b + 11)), .int x.2.2.2.2.2.1, .int x.2.2.2.2.2.2.1, .int x.2.2.2.2.2.2.2.1, .int x.2.2.2.2.2.2.2.2.1, .int x.2.2.2.2.2.2.2.2.2]))], wX4 g A (b + 1) x.1, wX4 g A (b + 4) x.2.1, wX4 g A (b + 7) x.2.2.1, [(A (b + 10), .inl (gI g, 3, .inl x.2.2.2.1))], [(A (b + 11), .inl (gI g, 2, .inl x.2.2.2.2.1))]] := hW.re rfl
  replace hl : lv_has ls 8 [(0, .ref (A b)), (1, .int p1), (2, .int p2)] := hl
  unfold f_X3_workNight at h
  refine lv_iload_n hx hb dX3_workNight_0 rfl (lv_at hl 1 rfl) ?_
  refine lv_iload_n hx hb dX3_workNight_1 rfl (lv_at hl 2 rfl) ?_
  have J10 : ∀ (w10 : Int32), f_X3_workNight_j10 x p1 p2 w10 = some (r, x') → ∀ (H : Heap) (locs : List Loc), WdG g Z s.heap H locs [[(A b, .inr (3, [.ref (A (b + 1)), .ref (A (b + 4)), .ref (A (b + 7)), .ref (A (b + 10)), .ref (A (b + 11)), .int x.2.2.2.2.2.1, .int x.2.2.2.2.2.2.1, .int x.2.2.2.2.2.2.2.1, .int x.2.2.2.2.2.2.2.2.1, .int x.2.2.2.2.2.2.2.2.2]))], wX4 g A (b + 1) x.1, wX4 g A (b + 4) x.2.1, wX4 g A (b + 7) x.2.2.1, [(A (b + 10), .inl (gI g, 3, .inl x.2.2.2.1))], [(A (b + 11), .inl (gI g, 2, .inl x.2.2.2.2.1))]] → ∀ ls : Array Slot, lv_has ls 8 [(0, .ref (A b)), (1, .int p1), (2, .int p2)] → W p l e R s m args below meth c H locs 0 0 Q (F0 m 10 ls [.int w10]) := by
    intro w10 h H locs hW ls hl
    unfold f_X3_workNight_j10 at h
    refine lv_istore_n (lv' := [(3, .int w10), (0, .ref (A b)), (1, .int p1), (2, .int p2)]) hx hb dX3_workNight_10 rfl hl (by decide) rfl (fun ls hl => ?_)
    refine lv_iload_n hx hb dX3_workNight_11 rfl (lv_at hl 3 rfl) ?_
    refine lv_iload_n hx hb dX3_workNight_12 rfl (lv_at hl 2 rfl) ?_
    refine lv_isub hx hb dX3_workNight_13 ?_
    refine r_abs C hl.1 (List.mem_of_getElem? (i := 1) rfl) (List.mem_of_getElem? (i := 2) rfl) (List.mem_of_getElem? (i := 3) rfl) (List.mem_of_getElem? (i := 4) rfl) (rmk hR rfl rfl) rz dX3_workNight_14 ?_
    refine lv_iconst (v := 1) hx hb dX3_workNight_17 (by decide) ?_
    refine lv_iadd hx hb dX3_workNight_18 ?_
    refine lv_istore (lv' := [(4, .int ((if 0 ≤ (p2 - p1) then (p2 - p1) else 0 - (p2 - p1)) + 1)), (3, .int w10), (0, .ref (A b)), (1, .int p1), (2, .int p2)]) hx hb dX3_workNight_19 hl (by decide) rfl (fun ls hl => ?_)
    refine lv_aload_n hx hb dX3_workNight_21 rfl (lv_at hl 2 rfl) ?_
    obtain ⟨t1, h2, h⟩ := q_b h
    refine r_cVi C hW (nA := 0) (As := []) (rest := []) (c_X3_crewLimit l g A b x _ h2) gX3_workNight_X3_crewLimit rfl ⟨rfl, wo_X3_crewLimit⟩ (rmk hR rfl rfl) rfl rfl rfl rfl hl.1 (Nat.le_of_ble_eq_true rfl) rz dX3_workNight_22 (n := 6) (is := [0, 1, 2, 3, 4, 5]) (rs := []) (bs' := [[(A b, .inr (3, [.ref (A (b + 1)), .ref (A (b + 4)), .ref (A (b + 7)), .ref (A (b + 10)), .ref (A (b + 11)), .int x.2.2.2.2.2.1, .int x.2.2.2.2.2.2.1, .int x.2.2.2.2.2.2.2.1, .int x.2.2.2.2.2.2.2.2.1, .int x.2.2.2.2.2.2.2.2.2]))], wX4 g A (b + 1) x.1, wX4 g A (b + 4) x.2.1, wX4 g A (b + 7) x.2.2.1, [(A (b + 10), .inl (gI g, 3, .inl x.2.2.2.1))], [(A (b + 11), .inl (gI g, 2, .inl x.2.2.2.2.1))]]) rfl rfl pm_232c3c4a rfl rfl rfl (fun H locs hW => ?_)
    refine lv_istore (lv' := [(5, .int t1), (4, .int ((if 0 ≤ (p2 - p1) then (p2 - p1) else 0 - (p2 - p1)) + 1)), (3, .int w10), (0, .ref (A b)), (1, .int p1), (2, .int p2)]) hx hb dX3_workNight_25 hl (by decide) rfl (fun ls hl => ?_)
    refine lv_iconst (v := 0) hx hb dX3_workNight_27 (by decide) ?_
    refine lv_istore (lv' := [(6, .int 0), (5, .int t1), (4, .int ((if 0 ≤ (p2 - p1) then (p2 - p1) else 0 - (p2 - p1)) + 1)), (3, .int w10), (0, .ref (A b)), (1, .int p1), (2, .int p2)]) hx hb dX3_workNight_28 hl (by decide) rfl (fun ls hl => ?_)
    refine lv_iconst (v := 0) hx hb dX3_workNight_30 (by decide) ?_
    refine lv_istore (lv' := [(7, .int 0), (6, .int 0), (5, .int t1), (4, .int ((if 0 ≤ (p2 - p1) then (p2 - p1) else 0 - (p2 - p1)) + 1)), (3, .int w10), (0, .ref (A b)), (1, .int p1), (2, .int p2)]) hx hb dX3_workNight_31 hl (by decide) rfl (fun ls hl => ?_)
    have L33 : ∀ n33 : Nat, ∀ (v33 : Int32 × Int32 × TX3s), lpN (f_X3_workNight_l33 p1 p2 w10 t1) n33 v33 = some (r, x') → ∀ (H : Heap) (locs : List Loc), WdG g Z s.heap H locs [[(A b, .inr (3, [.ref (A (b + 1)), .ref (A (b + 4)), .ref (A (b + 7)), .ref (A (b + 10)), .ref (A (b + 11)), .int v33.2.2.2.2.2.2.2.1, .int v33.2.2.2.2.2.2.2.2.1, .int v33.2.2.2.2.2.2.2.2.2.1, .int v33.2.2.2.2.2.2.2.2.2.2.1, .int v33.2.2.2.2.2.2.2.2.2.2.2]))], wX4 g A (b + 1) v33.2.2.1, wX4 g A (b + 4) v33.2.2.2.1, wX4 g A (b + 7) v33.2.2.2.2.1, [(A (b + 10), .inl (gI g, 3, .inl v33.2.2.2.2.2.1))], [(A (b + 11), .inl (gI g, 2, .inl v33.2.2.2.2.2.2.1))]] → ∀ ls : Array Slot, lv_has ls 8 [(0, .ref (A b)), (1, .int p1), (3, .int w10), (4, .int ((if 0 ≤ (p2 - p1) then (p2 - p1) else 0 - (p2 - p1)) + 1)), (5, .int t1), (6, .int v33.1), (7, .int v33.2.1)] → W p l e R s m args below meth c H locs 0 0 Q (F0 m 33 ls []) := by
      intro n33
      induction n33 with
      | zero => intro v33 h; exact absurd (show none = some (r, x') from h) (fun h => by cases h)
      | succ n33 ih33 =>
        intro v33 h H locs hW ls hl
        replace h : f_X3_workNight_l33 p1 p2 w10 t1 (lpN (f_X3_workNight_l33 p1 p2 w10 t1) n33) v33 = some (r, x') := h
        unfold f_X3_workNight_l33 at h
        refine lv_iload hx hb dX3_workNight_33 (lv_at hl 6 rfl) ?_
        refine lv_iload hx hb dX3_workNight_35 (lv_at hl 3 rfl) ?_
        refine lv_icmp_ge (tgt := 66) hx hb dX3_workNight_37 (by decide) (fun e3 => ?_) (fun e3 => ?_)
        · replace h := q_t e3 h
          refine lv_aload_n hx hb dX3_workNight_66 rfl (lv_at hl 0 rfl) ?_
          refine lv_dup hx hb dX3_workNight_67 rfl ?_
          refine r_get C hW (K := RX3) (T := TX3) (N := 10) (v := .int v33.2.2.2.2.2.2.2.1) 0 0 5 rfl rfl rfl inX3_workNight_X3 (by decide) (List.mem_of_getElem? (i := 5) rfl) rfl rfl dX3_workNight_68 ?_
          refine lv_iload hx hb dX3_workNight_71 (lv_at hl 5 rfl) ?_
          refine lv_isub hx hb dX3_workNight_73 ?_
          refine r_put C hW (bs' := [[(A b, .inr (3, [.ref (A (b + 1)), .ref (A (b + 4)), .ref (A (b + 7)), .ref (A (b + 10)), .ref (A (b + 11)), .int (v33.2.2.2.2.2.2.2.1 - v33.1), .int v33.2.2.2.2.2.2.2.2.1, .int v33.2.2.2.2.2.2.2.2.2.1, .int v33.2.2.2.2.2.2.2.2.2.2.1, .int v33.2.2.2.2.2.2.2.2.2.2.2]))], wX4 g A (b + 1) v33.2.2.1, wX4 g A (b + 4) v33.2.2.2.1, wX4 g A (b + 7) v33.2.2.2.2.1, [(A (b + 10), .inl (gI g, 3, .inl v33.2.2.2.2.2.1))], [(A (b + 11), .inl (gI g, 2, .inl v33.2.2.2.2.2.2.1))]]) (K := RX3) (T := TX3) (N := 10) 0 0 5 rfl rfl rfl inX3_workNight_X3 tyX3 tyX3_ok nmX3 (by decide) (List.mem_of_getElem? (i := 5) rfl) rfl rfl (tyX3_ok 5 (by decide)) rfl rfl (Nat.le_of_ble_eq_true rfl) dX3_workNight_74 rfl (fun H locs hW => ?_)
          refine lv_aload_n hx hb dX3_workNight_77 rfl (lv_at hl 0 rfl) ?_
          refine lv_dup hx hb dX3_workNight_78 rfl ?_
          refine r_get C hW (K := RX3) (T := TX3) (N := 10) (v := .int v33.2.2.2.2.2.2.2.2.2.1) 0 0 7 rfl rfl rfl inX3_workNight_X3 (by decide) (List.mem_of_getElem? (i := 6) rfl) rfl rfl dX3_workNight_79 ?_
          refine lv_iconst (v := 1) hx hb dX3_workNight_82 (by decide) ?_
          refine lv_iadd hx hb dX3_workNight_83 ?_
          refine r_put C hW (bs' := [[(A b, .inr (3, [.ref (A (b + 1)), .ref (A (b + 4)), .ref (A (b + 7)), .ref (A (b + 10)), .ref (A (b + 11)), .int (v33.2.2.2.2.2.2.2.1 - v33.1), .int v33.2.2.2.2.2.2.2.2.1, .int (v33.2.2.2.2.2.2.2.2.2.1 + 1), .int v33.2.2.2.2.2.2.2.2.2.2.1, .int v33.2.2.2.2.2.2.2.2.2.2.2]))], wX4 g A (b + 1) v33.2.2.1, wX4 g A (b + 4) v33.2.2.2.1, wX4 g A (b + 7) v33.2.2.2.2.1, [(A (b + 10), .inl (gI g, 3, .inl v33.2.2.2.2.2.1))], [(A (b + 11), .inl (gI g, 2, .inl v33.2.2.2.2.2.2.1))]]) (K := RX3) (T := TX3) (N := 10) 0 0 7 rfl rfl rfl inX3_workNight_X3 tyX3 tyX3_ok nmX3 (by decide) (List.mem_of_getElem? (i := 6) rfl) rfl rfl (tyX3_ok 7 (by decide)) rfl rfl (Nat.le_of_ble_eq_true rfl) dX3_workNight_84 rfl (fun H locs hW => ?_)
          refine lv_aload_n hx hb dX3_workNight_87 rfl (lv_at hl 0 rfl) ?_
          refine lv_dup hx hb dX3_workNight_88 rfl ?_
          refine r_get C hW (K := RX3) (T := TX3) (N := 10) (v := .int v33.2.2.2.2.2.2.2.2.2.2.1) 0 0 8 rfl rfl rfl inX3_workNight_X3 (by decide) (List.mem_of_getElem? (i := 7) rfl) rfl rfl dX3_workNight_89 ?_
          refine lv_iload hx hb dX3_workNight_92 (lv_at hl 5 rfl) ?_
          refine lv_iadd hx hb dX3_workNight_94 ?_
          refine r_put C hW (bs' := [[(A b, .inr (3, [.ref (A (b + 1)), .ref (A (b + 4)), .ref (A (b + 7)), .ref (A (b + 10)), .ref (A (b + 11)), .int (v33.2.2.2.2.2.2.2.1 - v33.1), .int v33.2.2.2.2.2.2.2.2.1, .int (v33.2.2.2.2.2.2.2.2.2.1 + 1), .int (v33.2.2.2.2.2.2.2.2.2.2.1 + v33.1), .int v33.2.2.2.2.2.2.2.2.2.2.2]))], wX4 g A (b + 1) v33.2.2.1, wX4 g A (b + 4) v33.2.2.2.1, wX4 g A (b + 7) v33.2.2.2.2.1, [(A (b + 10), .inl (gI g, 3, .inl v33.2.2.2.2.2.1))], [(A (b + 11), .inl (gI g, 2, .inl v33.2.2.2.2.2.2.1))]]) (K := RX3) (T := TX3) (N := 10) 0 0 8 rfl rfl rfl inX3_workNight_X3 tyX3 tyX3_ok nmX3 (by decide) (List.mem_of_getElem? (i := 7) rfl) rfl rfl (tyX3_ok 8 (by decide)) rfl rfl (Nat.le_of_ble_eq_true rfl) dX3_workNight_95 rfl (fun H locs hW => ?_)
          refine lv_iload hx hb dX3_workNight_98 (lv_at hl 5 rfl) ?_
          cases h
          exact E _ _ _ _ _ hW rfl rfl dX3_workNight_100
        · replace h := q_f e3 h
          refine lv_iload hx hb dX3_workNight_40 (lv_at hl 5 rfl) ?_
          refine lv_aload_n hx hb dX3_workNight_42 rfl (lv_at hl 0 rfl) ?_
          refine lv_iload_n hx hb dX3_workNight_43 rfl (lv_at hl 1 rfl) ?_
          refine lv_iload hx hb dX3_workNight_44 (lv_at hl 6 rfl) ?_
          refine lv_iload_n hx hb dX3_workNight_46 rfl (lv_at hl 2 rfl) ?_
          refine lv_imul hx hb dX3_workNight_47 ?_
          refine lv_iadd hx hb dX3_workNight_48 ?_
          refine lv_iload hx hb dX3_workNight_49 (lv_at hl 4 rfl) ?_
          refine lv_iload hx hb dX3_workNight_51 (lv_at hl 5 rfl) ?_
          refine lv_isub hx hb dX3_workNight_53 ?_
          obtain ⟨t4, h5, h⟩ := q_b h
          refine r_cVi C hW (nA := 2) (As := [.int (p1 + (v33.2.1 * w10)), .int (t1 - v33.1)]) (rest := [.int v33.1]) (c_X3_repaintMile l g A b v33.2.2 (p1 + (v33.2.1 * w10)) (t1 - v33.1) _ _ h5) gX3_workNight_X3_repaintMile rfl ⟨rfl, wo_X3_repaintMile⟩ (rmk hR rfl rfl) rfl rfl rfl rfl hl.1 (Nat.le_of_ble_eq_true rfl) rz dX3_workNight_54 (n := 6) (is := [0, 1, 2, 3, 4, 5]) (rs := []) (bs' := [[(A b, .inr (3, [.ref (A (b + 1)), .ref (A (b + 4)), .ref (A (b + 7)), .ref (A (b + 10)), .ref (A (b + 11)), .int t4.2.2.2.2.2.2.1, .int t4.2.2.2.2.2.2.2.1, .int t4.2.2.2.2.2.2.2.2.1, .int t4.2.2.2.2.2.2.2.2.2.1, .int t4.2.2.2.2.2.2.2.2.2.2]))], wX4 g A (b + 1) t4.2.1, wX4 g A (b + 4) t4.2.2.1, wX4 g A (b + 7) t4.2.2.2.1, [(A (b + 10), .inl (gI g, 3, .inl t4.2.2.2.2.1))], [(A (b + 11), .inl (gI g, 2, .inl t4.2.2.2.2.2.1))]]) rfl rfl pm_232c3c4a rfl rfl rfl (fun H locs hW => ?_)
          refine lv_iadd hx hb dX3_workNight_57 ?_
          refine lv_istore (lv' := [(6, .int (v33.1 + t4.1)), (0, .ref (A b)), (1, .int p1), (3, .int w10), (4, .int ((if 0 ≤ (p2 - p1) then (p2 - p1) else 0 - (p2 - p1)) + 1)), (5, .int t1), (7, .int v33.2.1)]) hx hb dX3_workNight_58 hl (by decide) rfl (fun ls hl => ?_)
          refine lv_iinc (v := (v33.2.1 + 1)) (lv' := [(7, .int (v33.2.1 + 1)), (6, .int (v33.1 + t4.1)), (0, .ref (A b)), (1, .int p1), (3, .int w10), (4, .int ((if 0 ≤ (p2 - p1) then (p2 - p1) else 0 - (p2 - p1)) + 1)), (5, .int t1)]) hx hb dX3_workNight_60 hl (k := 6) rfl rfl (by decide) rfl (fun ls hl => ?_)
          refine lv_goto (tgt := 33) hx hb dX3_workNight_63 (by decide) ?_
          exact ih33 ((v33.1 + t4.1), (v33.2.1 + 1), t4.2) h _ _ hW _ (lv_sub hl [2, 3, 4, 5, 6, 1, 0] rfl)
    exact L33 3000 (0, 0, x) h _ _ hW _ (lv_sub hl [5, 6, 4, 3, 2, 1, 0] rfl)
  refine lv_icmp_gt (tgt := 9) hx hb dX3_workNight_2 (by decide) (fun e6 => ?_) (fun e6 => ?_)
  · replace h := q_t e6 h
    refine lv_iconst (v := (-1)) hx hb dX3_workNight_9 (by decide) ?_
    exact J10 (-1) h _ _ hW _ (lv_sub hl [0, 1, 2] rfl)
  · replace h := q_f e6 h
    refine lv_iconst (v := 1) hx hb dX3_workNight_5 (by decide) ?_
    refine lv_goto (tgt := 10) hx hb dX3_workNight_6 (by decide) ?_
    exact J10 1 h _ _ hW _ (lv_sub hl [0, 1, 2] rfl)
