def f_X6_signAt (p1 : Int32) (p2 : Int32) : Option (Int32) :=
if 3 ≤ p2 then (
if 6 ≤ p2 then (
(f_X6_lineAt (p2 - 6) p1).bind fun t3 =>
some t3)
else (
(f_X6_cellAt (p2 - 3) p1).bind fun t5 =>
some t5))
else (
(f_X6_cellAt p2 p1).bind fun t7 =>
some (t7 + 2))
theorem wo_X6_signAt : wordsOk yX6_signAt 2 := by decide +kernel
set_option maxHeartbeats 4000000 in
set_option maxRecDepth 100000 in
theorem c_X6_signAt (l : Launch) (g : GG) (p1 : Int32) (p2 : Int32) (r : Int32) (h : f_X6_signAt p1 p2 = some r) : CI l yX6_signAt wsX6_signAt 1 21 g [.int p1, .int p2] ([]) r ([]) := by
  refine CI.mk (own := RX6) (by decide) rfl rfl (Nat.le_of_ble_eq_true rfl) ?_
  intro p e R s m args below meth c Z Q C E hR H hW ls hl
  have hx := C.1.1
  have hb := C.1.2.1
  have hown := C.1.2.2.2.1
  replace hW : WdG g Z s.heap H [] [] := hW.re rfl
  replace hl : lv_has ls 2 [(0, .int p1), (1, .int p2)] := hl
  unfold f_X6_signAt at h
  refine lv_iload_n hx hb dX6_signAt_0 rfl (lv_at hl 1 rfl) ?_
  refine lv_iconst (v := 3) hx hb dX6_signAt_1 (by decide) ?_
  refine lv_icmp_ge (tgt := 15) hx hb dX6_signAt_2 (by decide) (fun e1 => ?_) (fun e1 => ?_)
  · replace h := q_t e1 h
    refine lv_iload_n hx hb dX6_signAt_15 rfl (lv_at hl 1 rfl) ?_
    refine lv_bipush (v := 6) hx hb dX6_signAt_16 (by decide) ?_
    refine lv_icmp_ge (tgt := 31) hx hb dX6_signAt_18 (by decide) (fun e2 => ?_) (fun e2 => ?_)
    · replace h := q_t e2 h
      refine lv_iload_n hx hb dX6_signAt_31 rfl (lv_at hl 1 rfl) ?_
      refine lv_bipush (v := 6) hx hb dX6_signAt_32 (by decide) ?_
      refine lv_isub hx hb dX6_signAt_34 ?_
      refine lv_iload_n hx hb dX6_signAt_35 rfl (lv_at hl 0 rfl) ?_
      obtain ⟨t3, h4, h⟩ := q_b h
      refine r_cSi C hW (nA := 2) (As := [.int (p2 - 6), .int p1]) (rest := []) (c_X6_lineAt l g (p2 - 6) p1 _ h4) gX6_signAt_X6_lineAt rfl wo_X6_lineAt (rmk hR rfl rfl) rfl rfl hl.1 (Nat.le_of_ble_eq_true rfl) rz dX6_signAt_36 (n := 0) (is := []) (rs := []) (bs' := []) rfl rfl pm_11 rfl rfl rfl (fun H locs hW => ?_)
      cases h
      exact E _ _ _ _ _ hW rfl rfl dX6_signAt_39
    · replace h := q_f e2 h
      refine lv_iload_n hx hb dX6_signAt_21 rfl (lv_at hl 1 rfl) ?_
      refine lv_iconst (v := 3) hx hb dX6_signAt_22 (by decide) ?_
      refine lv_isub hx hb dX6_signAt_23 ?_
      refine lv_iload_n hx hb dX6_signAt_24 rfl (lv_at hl 0 rfl) ?_
      obtain ⟨t5, h6, h⟩ := q_b h
      refine r_cSi C hW (nA := 2) (As := [.int (p2 - 3), .int p1]) (rest := []) (c_X6_cellAt l g (p2 - 3) p1 _ h6) gX6_signAt_X6_cellAt rfl wo_X6_cellAt (rmk hR rfl rfl) rfl rfl hl.1 (Nat.le_of_ble_eq_true rfl) rz dX6_signAt_25 (n := 0) (is := []) (rs := []) (bs' := []) rfl rfl pm_11 rfl rfl rfl (fun H locs hW => ?_)
      refine lv_goto (tgt := 39) hx hb dX6_signAt_28 (by decide) ?_
      cases h
      exact E _ _ _ _ _ hW rfl rfl dX6_signAt_39
  · replace h := q_f e1 h
    refine lv_iload_n hx hb dX6_signAt_5 rfl (lv_at hl 1 rfl) ?_
    refine lv_iload_n hx hb dX6_signAt_6 rfl (lv_at hl 0 rfl) ?_
    obtain ⟨t7, h8, h⟩ := q_b h
    refine r_cSi C hW (nA := 2) (As := [.int p2, .int p1]) (rest := []) (c_X6_cellAt l g p2 p1 _ h8) gX6_signAt_X6_cellAt rfl wo_X6_cellAt (rmk hR rfl rfl) rfl rfl hl.1 (Nat.le_of_ble_eq_true rfl) rz dX6_signAt_7 (n := 0) (is := []) (rs := []) (bs' := []) rfl rfl pm_11 rfl rfl rfl (fun H locs hW => ?_)
    refine lv_iconst (v := 2) hx hb dX6_signAt_10 (by decide) ?_
    refine lv_iadd hx hb dX6_signAt_11 ?_
    refine lv_goto (tgt := 39) hx hb dX6_signAt_12 (by decide) ?_
    cases h
    exact E _ _ _ _ _ hW rfl rfl dX6_signAt_39
def f_X6_whyNotNight (x : TX6s) (p1 : Int32) (p2 : Int32) : Option (Int32) :=
(f_X6_in p1 0 15).bind fun t1 =>
if t1 = 0 then (
some (-1))
else (
(f_X6_in p2 0 15).bind fun t4 =>
if t4 = 0 then (
some (-1))
else (
if (5 : Int32) < 0 ∨ 268 ≤ (5 : Int32).toNatClampNeg then none else
if (x.1 (5 : Int32).toNatClampNeg) = 0 then (
some (-3))
else (
some 0)))
theorem wo_X6_whyNotNight : wordsOk yX6_whyNotNight 2 := by decide +kernel
theorem inX6_whyNotNight_X6 : ∀ w ∈ wsX60, w ∈ wsX6_whyNotNight := fun _ h => List.mem_cons_of_mem _ (List.mem_append_right _ h)
set_option maxHeartbeats 4000000 in
set_option maxRecDepth 100000 in
theorem c_X6_whyNotNight (l : Launch) (g : GG) (A : Nat → Nat) (b : Nat) (x : TX6s) (p1 : Int32) (p2 : Int32) (r : Int32) (h : f_X6_whyNotNight x p1 p2 = some r) : CI l yX6_whyNotNight wsX6_whyNotNight 1 22 g [.ref (A b), .int p1, .int p2] (wX6 g A b x) r (wX6 g A b x) := by
  refine CI.mk (own := RX6) (by decide) rfl rfl (Nat.le_of_ble_eq_true rfl) ?_
  intro p e R s m args below meth c Z Q C E hR H hW ls hl
  have hx := C.1.1
  have hb := C.1.2.1
  have hown := C.1.2.2.2.1
  replace hW : WdG g Z s.heap H [] [[(A b, .inr (6, [.ref (A (b + 1)), .ref (A (b + 2)), .int x.2.2.1, .ref (A (b + 3)), .int x.2.2.2.2.1, .ref (A (b + 4)), .int x.2.2.2.2.2.2.1, .ref (A (b + 5)), .ref (A (b + 6)), .int x.2.2.2.2.2.2.2.2.2.1, .int x.2.2.2.2.2.2.2.2.2.2.1, .int x.2.2.2.2.2.2.2.2.2.2.2]))], [(A (b + 1), .inl (gI g, 268, .inl x.1))], [(A (b + 2), .inl (gI g, 1340, .inl x.2.1))], [(A (b + 3), .inl (gI g, 268, .inl x.2.2.2.1))], [(A (b + 4), .inl (gC g, 70, .inl x.2.2.2.2.2.1))], [(A (b + 5), .inl (gI g, 3, .inl x.2.2.2.2.2.2.2.1))], [(A (b + 6), .inl (gI g, 144, .inl x.2.2.2.2.2.2.2.2.1))]] := hW.re rfl
  replace hl : lv_has ls 3 [(0, .ref (A b)), (1, .int p1), (2, .int p2)] := hl
  unfold f_X6_whyNotNight at h
  refine lv_iload_n hx hb dX6_whyNotNight_0 rfl (lv_at hl 1 rfl) ?_
  refine lv_iconst (v := 0) hx hb dX6_whyNotNight_1 (by decide) ?_
  refine lv_bipush (v := 15) hx hb dX6_whyNotNight_2 (by decide) ?_
  obtain ⟨t1, h2, h⟩ := q_b h
  refine r_cSi C hW (nA := 3) (As := [.int p1, .int 0, .int 15]) (rest := []) (c_X6_in l g p1 0 15 _ h2) gX6_whyNotNight_X6_in rfl wo_X6_in (rmk hR rfl rfl) rfl rfl hl.1 (Nat.le_of_ble_eq_true rfl) rz dX6_whyNotNight_4 (n := 7) (is := []) (rs := [0, 1, 2, 3, 4, 5, 6]) (bs' := [[(A b, .inr (6, [.ref (A (b + 1)), .ref (A (b + 2)), .int x.2.2.1, .ref (A (b + 3)), .int x.2.2.2.2.1, .ref (A (b + 4)), .int x.2.2.2.2.2.2.1, .ref (A (b + 5)), .ref (A (b + 6)), .int x.2.2.2.2.2.2.2.2.2.1, .int x.2.2.2.2.2.2.2.2.2.2.1, .int x.2.2.2.2.2.2.2.2.2.2.2]))], [(A (b + 1), .inl (gI g, 268, .inl x.1))], [(A (b + 2), .inl (gI g, 1340, .inl x.2.1))], [(A (b + 3), .inl (gI g, 268, .inl x.2.2.2.1))], [(A (b + 4), .inl (gC g, 70, .inl x.2.2.2.2.2.1))], [(A (b + 5), .inl (gI g, 3, .inl x.2.2.2.2.2.2.2.1))], [(A (b + 6), .inl (gI g, 144, .inl x.2.2.2.2.2.2.2.2.1))]]) rfl rfl pm_38 rfl rfl rfl (fun H locs hW => ?_)
  refine lv_if_eq (tgt := 20) hx hb dX6_whyNotNight_7 (by decide) (fun e3 => ?_) (fun e3 => ?_)
  · replace h := q_t e3 h
    refine lv_iconst (v := (-1)) hx hb dX6_whyNotNight_20 (by decide) ?_
    refine lv_goto (tgt := 39) hx hb dX6_whyNotNight_21 (by decide) ?_
    cases h
    exact E _ _ _ _ _ hW rfl rfl dX6_whyNotNight_39
  · replace h := q_f e3 h
    refine lv_iload_n hx hb dX6_whyNotNight_10 rfl (lv_at hl 2 rfl) ?_
    refine lv_iconst (v := 0) hx hb dX6_whyNotNight_11 (by decide) ?_
    refine lv_bipush (v := 15) hx hb dX6_whyNotNight_12 (by decide) ?_
    obtain ⟨t4, h5, h⟩ := q_b h
    refine r_cSi C hW (nA := 3) (As := [.int p2, .int 0, .int 15]) (rest := []) (c_X6_in l g p2 0 15 _ h5) gX6_whyNotNight_X6_in rfl wo_X6_in (rmk hR rfl rfl) rfl rfl hl.1 (Nat.le_of_ble_eq_true rfl) rz dX6_whyNotNight_14 (n := 7) (is := []) (rs := [0, 1, 2, 3, 4, 5, 6]) (bs' := [[(A b, .inr (6, [.ref (A (b + 1)), .ref (A (b + 2)), .int x.2.2.1, .ref (A (b + 3)), .int x.2.2.2.2.1, .ref (A (b + 4)), .int x.2.2.2.2.2.2.1, .ref (A (b + 5)), .ref (A (b + 6)), .int x.2.2.2.2.2.2.2.2.2.1, .int x.2.2.2.2.2.2.2.2.2.2.1, .int x.2.2.2.2.2.2.2.2.2.2.2]))], [(A (b + 1), .inl (gI g, 268, .inl x.1))], [(A (b + 2), .inl (gI g, 1340, .inl x.2.1))], [(A (b + 3), .inl (gI g, 268, .inl x.2.2.2.1))], [(A (b + 4), .inl (gC g, 70, .inl x.2.2.2.2.2.1))], [(A (b + 5), .inl (gI g, 3, .inl x.2.2.2.2.2.2.2.1))], [(A (b + 6), .inl (gI g, 144, .inl x.2.2.2.2.2.2.2.2.1))]]) rfl rfl pm_38 rfl rfl rfl (fun H locs hW => ?_)
    refine lv_if_ne (tgt := 24) hx hb dX6_whyNotNight_17 (by decide) (fun e6 => ?_) (fun e6 => ?_)
    · replace h := q_f e6 h
      refine lv_aload_n hx hb dX6_whyNotNight_24 rfl (lv_at hl 0 rfl) ?_
      refine r_get C hW (K := RX6) (T := TX6) (N := 12) (v := .ref (A (b + 1))) 0 0 0 rfl rfl rfl inX6_whyNotNight_X6 (by decide) (List.mem_of_getElem? (i := 1) rfl) rfl rfl dX6_whyNotNight_25 ?_
      refine lv_iconst (v := 5) hx hb dX6_whyNotNight_28 (by decide) ?_
      obtain ⟨g7, h⟩ := q_g h
      refine r_iald C hW 1 0 rfl rfl g7 dX6_whyNotNight_29 ?_
      refine lv_if_ne (tgt := 38) hx hb dX6_whyNotNight_30 (by decide) (fun e8 => ?_) (fun e8 => ?_)
      · replace h := q_f e8 h
        refine lv_iconst (v := 0) hx hb dX6_whyNotNight_38 (by decide) ?_
        cases h
        exact E _ _ _ _ _ hW rfl rfl dX6_whyNotNight_39
      · replace h := q_t e8 h
        refine lv_bipush (v := (-3)) hx hb dX6_whyNotNight_33 (by decide) ?_
        refine lv_goto (tgt := 39) hx hb dX6_whyNotNight_35 (by decide) ?_
        cases h
        exact E _ _ _ _ _ hW rfl rfl dX6_whyNotNight_39
    · replace h := q_t e6 h
      refine lv_iconst (v := (-1)) hx hb dX6_whyNotNight_20 (by decide) ?_
      refine lv_goto (tgt := 39) hx hb dX6_whyNotNight_21 (by decide) ?_
      cases h
      exact E _ _ _ _ _ hW rfl rfl dX6_whyNotNight_39
def f_X6_works_l29 (w12 : Int32) (k17 : (Int32 × Int32 × TX6s) → Option (Int32 × TX6s)) (v17 : Int32 × Int32 × TX6s) (k29 : (Int32 × Int32 × TX6s) → Option (Int32 × TX6s)) (v29 : Int32 × Int32 × TX6s) : Option (Int32 × TX6s) :=
if 8 ≤ v29.2.1 then (
k17 (v29.1, (v17.2.1 + w12), v29.2.2))
else (
(f_X6_signAt v17.2.1 v29.2.1).bind fun t7 =>
(f_X6_isWeak v29.2.2 t7).bind fun t9 =>
if t9 = 0 then (
k29 (v29.1, (v29.2.1 + 1), v29.2.2))
else (
if (5 : Int32) < 0 ∨ 268 ≤ (5 : Int32).toNatClampNeg then none else
if (v29.2.2.1 (5 : Int32).toNatClampNeg) ≤ 0 then (
k29 (v29.1, (v29.2.1 + 1), v29.2.2))
else (
if (1 : Int32) < 0 ∨ 268 ≤ (1 : Int32).toNatClampNeg then none else
if (v29.2.2.1 (1 : Int32).toNatClampNeg) ≤ v29.1 then (
k29 (v29.1, (v29.2.1 + 1), v29.2.2))
else (
if (t7 + 1) < 0 ∨ 268 ≤ (t7 + 1).toNatClampNeg then none else
if (5 : Int32) < 0 ∨ 268 ≤ (5 : Int32).toNatClampNeg then none else
if (5 : Int32) < 0 ∨ 268 ≤ (5 : Int32).toNatClampNeg then none else
k29 ((v29.1 + 1), (v29.2.1 + 1), ((upd (upd v29.2.2.1 (t7 + 1).toNatClampNeg 100) (5 : Int32).toNatClampNeg (((upd v29.2.2.1 (t7 + 1).toNatClampNeg 100) (5 : Int32).toNatClampNeg) - 1)), v29.2.2.2.1, v29.2.2.2.2.1, v29.2.2.2.2.2.1, v29.2.2.2.2.2.2.1, v29.2.2.2.2.2.2.2.1, v29.2.2.2.2.2.2.2.2.1, v29.2.2.2.2.2.2.2.2.2.1, v29.2.2.2.2.2.2.2.2.2.2.1, v29.2.2.2.2.2.2.2.2.2.2.2.1, v29.2.2.2.2.2.2.2.2.2.2.2.2.1, v29.2.2.2.2.2.2.2.2.2.2.2.2.2))))))
def f_X6_works_l17 (p2 : Int32) (w12 : Int32) (k17 : (Int32 × Int32 × TX6s) → Option (Int32 × TX6s)) (v17 : Int32 × Int32 × TX6s) : Option (Int32 × TX6s) :=
if v17.2.1 = (p2 + w12) then (
if (7 : Int32) < 0 ∨ 268 ≤ (7 : Int32).toNatClampNeg then none else
if (7 : Int32) < 0 ∨ 268 ≤ (7 : Int32).toNatClampNeg then none else
if (8 : Int32) < 0 ∨ 268 ≤ (8 : Int32).toNatClampNeg then none else
if (8 : Int32) < 0 ∨ 268 ≤ (8 : Int32).toNatClampNeg then none else
some (v17.1, ((upd (upd v17.2.2.1 (7 : Int32).toNatClampNeg ((v17.2.2.1 (7 : Int32).toNatClampNeg) + 1)) (8 : Int32).toNatClampNeg (((upd v17.2.2.1 (7 : Int32).toNatClampNeg ((v17.2.2.1 (7 : Int32).toNatClampNeg) + 1)) (8 : Int32).toNatClampNeg) + v17.1)), v17.2.2.2.1, v17.2.2.2.2.1, v17.2.2.2.2.2.1, v17.2.2.2.2.2.2.1, v17.2.2.2.2.2.2.2.1, v17.2.2.2.2.2.2.2.2.1, v17.2.2.2.2.2.2.2.2.2.1, v17.2.2.2.2.2.2.2.2.2.2.1, v17.2.2.2.2.2.2.2.2.2.2.2.1, v17.2.2.2.2.2.2.2.2.2.2.2.2.1, v17.2.2.2.2.2.2.2.2.2.2.2.2.2)))
else (
lpN (f_X6_works_l29 w12 k17 v17) 3000 (v17.1, 0, v17.2.2))
def f_X6_works_j12 (x : TX6s) (p1 : Int32) (p2 : Int32) (w12 : Int32) : Option (Int32 × TX6s) :=
lpN (f_X6_works_l17 p2 w12) 3000 (0, p1, x)
def f_X6_works (x : TX6s) (p1 : Int32) (p2 : Int32) : Option (Int32 × TX6s) :=
if p2 < p1 then (
f_X6_works_j12 x p1 p2 (-1))
else (
f_X6_works_j12 x p1 p2 1)
theorem wo_X6_works : wordsOk yX6_works 2 := by decide +kernel
theorem inX6_works_X6 : ∀ w ∈ wsX60, w ∈ wsX6_works := fun _ h => List.mem_cons_of_mem _ (List.mem_append_right _ h)
set_option maxHeartbeats 4000000 in
set_option maxRecDepth 100000 in
theorem c_X6_works (l : Launch) (g : GG) (A : Nat → Nat) (b : Nat) (x : TX6s) (p1 : Int32) (p2 : Int32) (r : Int32) (x' : TX6s) (h : f_X6_works x p1 p2 = some (r, x')) : CI l yX6_works wsX6_works 2 42 g [.ref (A b), .int p1, .int p2] (wX6 g A b x) r (wX6 g A b x') := by
  refine CI.mk (own := RX6) (by decide) rfl rfl (Nat.le_of_ble_eq_true rfl) ?_
  intro p e R s m args below meth c Z Q C E hR H hW ls hl
  have hx := C.1.1
  have hb := C.1.2.1
  have hown := C.1.2.2.2.1
  replace hW : WdG g Z s.heap H [] [[(A b, .inr (6, [.ref (A (b + 1)), .ref (A (b + 2)), .int x.2.2.1, .ref (A (b + 3)), .int x.2.2.2.2.1, .ref (A (b + 4)), .int x.2.2.2.2.2.2.1, .ref (A (b + 5)), .ref (A (b + 6)), .int x.2.2.2.2.2.2.2.2.2.1, .int x.2.2.2.2.2.2.2.2.2.2.1, .int x.2.2.2.2.2.2.2.2.2.2.2]))], [(A (b + 1), .inl (gI g, 268, .inl x.1))], [(A (b + 2), .inl (gI g, 1340, .inl x.2.1))], [(A (b + 3), .inl (gI g, 268, .inl x.2.2.2.1))], [(A (b + 4), .inl (gC g, 70, .inl x.2.2.2.2.2.1))], [(A (b + 5), .inl (gI g, 3, .inl x.2.2.2.2.2.2.2.1))], [(A (b + 6), .inl (gI g, 144, .inl x.2.2.2.2.2.2.2.2.1))]] := hW.re rfl
  replace hl : lv_has ls 8 [(0, .ref (A b)), (1, .int p1), (2, .int p2)] := hl
  unfold f_X6_works at h
  refine lv_iconst (v := 0) hx hb dX6_works_0 (by decide) ?_
  refine lv_istore_n (lv' := [(3, .int 0), (0, .ref (A b)), (1, .int p1), (2, .int p2)]) hx hb dX6_works_1 rfl hl (by decide) rfl (fun ls hl => ?_)
  refine lv_iload_n hx hb dX6_works_2 rfl (lv_at hl 2 rfl) ?_
  refine lv_iload_n hx hb dX6_works_3 rfl (lv_at hl 3 rfl) ?_
  have J12 : ∀ (w12 : Int32), f_X6_works_j12 x p1 p2 w12 = some (r, x') → ∀ (H : Heap) (locs : List Loc), WdG g Z s.heap H locs [[(A b, .inr (6, [.ref (A (b + 1)), .ref (A (b + 2)), .int x.2.2.1, .ref (A (b + 3)), .int x.2.2.2.2.1, .ref (A (b + 4)), .int x.2.2.2.2.2.2.1, .ref (A (b + 5)), .ref (A (b + 6)), .int x.2.2.2.2.2.2.2.2.2.1, .int x.2.2.2.2.2.2.2.2.2.2.1, .int x.2.2.2.2.2.2.2.2.2.2.2]))], [(A (b + 1), .inl (gI g, 268, .inl x.1))], [(A (b + 2), .inl (gI g, 1340, .inl x.2.1))], [(A (b + 3), .inl (gI g, 268, .inl x.2.2.2.1))], [(A (b + 4), .inl (gC g, 70, .inl x.2.2.2.2.2.1))], [(A (b + 5), .inl (gI g, 3, .inl x.2.2.2.2.2.2.2.1))], [(A (b + 6), .inl (gI g, 144, .inl x.2.2.2.2.2.2.2.2.1))]] → ∀ ls : Array Slot, lv_has ls 8 [(0, .ref (A b)), (1, .int p1), (2, .int p2), (3, .int 0)] → W p l e R s m args below meth c H locs 0 0 Q (F0 m 12 ls [.int w12]) := by
    intro w12 h H locs hW ls hl
    unfold f_X6_works_j12 at h
    refine lv_istore (lv' := [(4, .int w12), (0, .ref (A b)), (1, .int p1), (2, .int p2), (3, .int 0)]) hx hb dX6_works_12 hl (by decide) rfl (fun ls hl => ?_)
    refine lv_iload_n hx hb dX6_works_14 rfl (lv_at hl 2 rfl) ?_
    refine lv_istore (lv' := [(5, .int p1), (4, .int w12), (0, .ref (A b)), (1, .int p1), (2, .int p2), (3, .int 0)]) hx hb dX6_works_15 hl (by decide) rfl (fun ls hl => ?_)
    have L17 : ∀ n17 : Nat, ∀ (v17 : Int32 × Int32 × TX6s), lpN (f_X6_works_l17 p2 w12) n17 v17 = some (r, x') → ∀ (H : Heap) (locs : List Loc), WdG g Z s.heap H locs [[(A b, .inr (6, [.ref (A (b + 1)), .ref (A (b + 2)), .int v17.2.2.2.2.1, .ref (A (b + 3)), .int v17.2.2.2.2.2.2.1, .ref (A (b + 4)), .int v17.2.2.2.2.2.2.2.2.1, .ref (A (b + 5)), .ref (A (b + 6)), .int v17.2.2.2.2.2.2.2.2.2.2.2.1, .int v17.2.2.2.2.2.2.2.2.2.2.2.2.1, .int v17.2.2.2.2.2.2.2.2.2.2.2.2.2]))], [(A (b + 1), .inl (gI g, 268, .inl v17.2.2.1))], [(A (b + 2), .inl (gI g, 1340, .inl v17.2.2.2.1))], [(A (b + 3), .inl (gI g, 268, .inl v17.2.2.2.2.2.1))], [(A (b + 4), .inl (gC g, 70, .inl v17.2.2.2.2.2.2.2.1))], [(A (b + 5), .inl (gI g, 3, .inl v17.2.2.2.2.2.2.2.2.2.1))], [(A (b + 6), .inl (gI g, 144, .inl v17.2.2.2.2.2.2.2.2.2.2.1))]] → ∀ ls : Array Slot, lv_has ls 8 [(0, .ref (A b)), (2, .int p2), (3, .int v17.1), (4, .int w12), (5, .int v17.2.1)] → W p l e R s m args below meth c H locs 0 0 Q (F0 m 17 ls []) := by
      intro n17
      induction n17 with
      | zero => intro v17 h; exact absurd (show none = some (r, x') from h) (fun h => by cases h)
      | succ n17 ih17 =>
        intro v17 h H locs hW ls hl
        replace h : f_X6_works_l17 p2 w12 (lpN (f_X6_works_l17 p2 w12) n17) v17 = some (r, x') := h
        unfold f_X6_works_l17 at h
        refine lv_iload hx hb dX6_works_17 (lv_at hl 4 rfl) ?_
        refine lv_iload_n hx hb dX6_works_19 rfl (lv_at hl 1 rfl) ?_
        refine lv_iload hx hb dX6_works_20 (lv_at hl 3 rfl) ?_
        refine lv_iadd hx hb dX6_works_22 ?_
        refine lv_icmp_eq (tgt := 113) hx hb dX6_works_23 (by decide) (fun e1 => ?_) (fun e1 => ?_)
        · replace h := q_t e1 h
          refine lv_aload_n hx hb dX6_works_113 rfl (lv_at hl 0 rfl) ?_
          refine r_get C hW (K := RX6) (T := TX6) (N := 12) (v := .ref (A (b + 1))) 0 0 0 rfl rfl rfl inX6_works_X6 (by decide) (List.mem_of_getElem? (i := 1) rfl) rfl rfl dX6_works_114 ?_
          refine lv_bipush (v := 7) hx hb dX6_works_117 (by decide) ?_
          refine lv_dup2_11 hx hb dX6_works_119 rfl rfl ?_
          obtain ⟨g2, h⟩ := q_g h
          refine r_iald C hW 1 0 rfl rfl g2 dX6_works_120 ?_
          refine lv_iconst (v := 1) hx hb dX6_works_121 (by decide) ?_
          refine lv_iadd hx hb dX6_works_122 ?_
          obtain ⟨g3, h⟩ := q_g h
          refine r_iast C hW (bs' := [[(A b, .inr (6, [.ref (A (b + 1)), .ref (A (b + 2)), .int v17.2.2.2.2.1, .ref (A (b + 3)), .int v17.2.2.2.2.2.2.1, .ref (A (b + 4)), .int v17.2.2.2.2.2.2.2.2.1, .ref (A (b + 5)), .ref (A (b + 6)), .int v17.2.2.2.2.2.2.2.2.2.2.2.1, .int v17.2.2.2.2.2.2.2.2.2.2.2.2.1, .int v17.2.2.2.2.2.2.2.2.2.2.2.2.2]))], [(A (b + 1), .inl (gI g, 268, .inl (upd v17.2.2.1 (7 : Int32).toNatClampNeg ((v17.2.2.1 (7 : Int32).toNatClampNeg) + 1))))], [(A (b + 2), .inl (gI g, 1340, .inl v17.2.2.2.1))], [(A (b + 3), .inl (gI g, 268, .inl v17.2.2.2.2.2.1))], [(A (b + 4), .inl (gC g, 70, .inl v17.2.2.2.2.2.2.2.1))], [(A (b + 5), .inl (gI g, 3, .inl v17.2.2.2.2.2.2.2.2.2.1))], [(A (b + 6), .inl (gI g, 144, .inl v17.2.2.2.2.2.2.2.2.2.2.1))]]) 1 0 rfl rfl g3 dX6_works_123 rfl (fun H locs hW => ?_)
          refine lv_aload_n hx hb dX6_works_124 rfl (lv_at hl 0 rfl) ?_
          refine r_get C hW (K := RX6) (T := TX6) (N := 12) (v := .ref (A (b + 1))) 0 0 0 rfl rfl rfl inX6_works_X6 (by decide) (List.mem_of_getElem? (i := 1) rfl) rfl rfl dX6_works_125 ?_
          refine lv_bipush (v := 8) hx hb dX6_works_128 (by decide) ?_
          refine lv_dup2_11 hx hb dX6_works_130 rfl rfl ?_
          obtain ⟨g4, h⟩ := q_g h
          refine r_iald C hW 1 0 rfl rfl g4 dX6_works_131 ?_
          refine lv_iload_n hx hb dX6_works_132 rfl (lv_at hl 2 rfl) ?_
          refine lv_iadd hx hb dX6_works_133 ?_
          obtain ⟨g5, h⟩ := q_g h
          refine r_iast C hW (bs' := [[(A b, .inr (6, [.ref (A (b + 1)), .ref (A (b + 2)), .int v17.2.2.2.2.1, .ref (A (b + 3)), .int v17.2.2.2.2.2.2.1, .ref (A (b + 4)), .int v17.2.2.2.2.2.2.2.2.1, .ref (A (b + 5)), .ref (A (b + 6)), .int v17.2.2.2.2.2.2.2.2.2.2.2.1, .int v17.2.2.2.2.2.2.2.2.2.2.2.2.1, .int v17.2.2.2.2.2.2.2.2.2.2.2.2.2]))], [(A (b + 1), .inl (gI g, 268, .inl (upd (upd v17.2.2.1 (7 : Int32).toNatClampNeg ((v17.2.2.1 (7 : Int32).toNatClampNeg) + 1)) (8 : Int32).toNatClampNeg (((upd v17.2.2.1 (7 : Int32).toNatClampNeg ((v17.2.2.1 (7 : Int32).toNatClampNeg) + 1)) (8 : Int32).toNatClampNeg) + v17.1))))], [(A (b + 2), .inl (gI g, 1340, .inl v17.2.2.2.1))], [(A (b + 3), .inl (gI g, 268, .inl v17.2.2.2.2.2.1))], [(A (b + 4), .inl (gC g, 70, .inl v17.2.2.2.2.2.2.2.1))], [(A (b + 5), .inl (gI g, 3, .inl v17.2.2.2.2.2.2.2.2.2.1))], [(A (b + 6), .inl (gI g, 144, .inl v17.2.2.2.2.2.2.2.2.2.2.1))]]) 1 0 rfl rfl g5 dX6_works_134 rfl (fun H locs hW => ?_)
          refine lv_iload_n hx hb dX6_works_135 rfl (lv_at hl 2 rfl) ?_
          cases h
          exact E _ _ _ _ _ hW rfl rfl dX6_works_136
        · replace h := q_f e1 h
          refine lv_iconst (v := 0) hx hb dX6_works_26 (by decide) ?_
          refine lv_istore (lv' := [(6, .int 0), (0, .ref (A b)), (2, .int p2), (3, .int v17.1), (4, .int w12), (5, .int v17.2.1)]) hx hb dX6_works_27 hl (by decide) rfl (fun ls hl => ?_)
          have L29 : ∀ n29 : Nat, ∀ (v29 : Int32 × Int32 × TX6s), lpN (f_X6_works_l29 w12 (lpN (f_X6_works_l17 p2 w12) n17) v17) n29 v29 = some (r, x') → ∀ (H : Heap) (locs : List Loc), WdG g Z s.heap H locs [[(A b, .inr (6, [.ref (A (b + 1)), .ref (A (b + 2)), .int v29.2.2.2.2.1, .ref (A (b + 3)), .int v29.2.2.2.2.2.2.1, .ref (A (b + 4)), .int v29.2.2.2.2.2.2.2.2.1, .ref (A (b + 5)), .ref (A (b + 6)), .int v29.2.2.2.2.2.2.2.2.2.2.2.1, .int v29.2.2.2.2.2.2.2.2.2.2.2.2.1, .int v29.2.2.2.2.2.2.2.2.2.2.2.2.2]))], [(A (b + 1), .inl (gI g, 268, .inl v29.2.2.1))], [(A (b + 2), .inl (gI g, 1340, .inl v29.2.2.2.1))], [(A (b + 3), .inl (gI g, 268, .inl v29.2.2.2.2.2.1))], [(A (b + 4), .inl (gC g, 70, .inl v29.2.2.2.2.2.2.2.1))], [(A (b + 5), .inl (gI g, 3, .inl v29.2.2.2.2.2.2.2.2.2.1))], [(A (b + 6), .inl (gI g, 144, .inl v29.2.2.2.2.2.2.2.2.2.2.1))]] → ∀ ls : Array Slot, lv_has ls 8 [(0, .ref (A b)), (2, .int p2), (3, .int v29.1), (4, .int w12), (5, .int v17.2.1), (6, .int v29.2.1)] → W p l e R s m args below meth c H locs 0 0 Q (F0 m 29 ls []) := by
            intro n29
            induction n29 with
            | zero => intro v29 h; exact absurd (show none = some (r, x') from h) (fun h => by cases h)
            | succ n29 ih29 =>
              intro v29 h H locs hW ls hl
              replace h : f_X6_works_l29 w12 (lpN (f_X6_works_l17 p2 w12) n17) v17 (lpN (f_X6_works_l29 w12 (lpN (f_X6_works_l17 p2 w12) n17) v17) n29) v29 = some (r, x') := h
              unfold f_X6_works_l29 at h
              refine lv_iload hx hb dX6_works_29 (lv_at hl 5 rfl) ?_
              refine lv_bipush (v := 8) hx hb dX6_works_31 (by decide) ?_
              refine lv_icmp_ge (tgt := 103) hx hb dX6_works_33 (by decide) (fun e6 => ?_) (fun e6 => ?_)
              · replace h := q_t e6 h
                refine lv_iload hx hb dX6_works_103 (lv_at hl 4 rfl) ?_
                refine lv_iload hx hb dX6_works_105 (lv_at hl 3 rfl) ?_
                refine lv_iadd hx hb dX6_works_107 ?_
                refine lv_istore (lv' := [(5, .int (v17.2.1 + w12)), (0, .ref (A b)), (2, .int p2), (3, .int v29.1), (4, .int w12), (6, .int v29.2.1)]) hx hb dX6_works_108 hl (by decide) rfl (fun ls hl => ?_)
                refine lv_goto (tgt := 17) hx hb dX6_works_110 (by decide) ?_
                exact ih17 (v29.1, (v17.2.1 + w12), v29.2.2) h _ _ hW _ (lv_sub hl [1, 2, 3, 4, 0] rfl)
              · replace h := q_f e6 h
                refine lv_iload hx hb dX6_works_36 (lv_at hl 4 rfl) ?_
                refine lv_iload hx hb dX6_works_38 (lv_at hl 5 rfl) ?_
                obtain ⟨t7, h8, h⟩ := q_b h
                refine r_cSi C hW (nA := 2) (As := [.int v17.2.1, .int v29.2.1]) (rest := []) (c_X6_signAt l g v17.2.1 v29.2.1 _ h8) gX6_works_X6_signAt rfl wo_X6_signAt (rmk hR rfl rfl) rfl rfl hl.1 (Nat.le_of_ble_eq_true rfl) rz dX6_works_40 (n := 7) (is := []) (rs := [0, 1, 2, 3, 4, 5, 6]) (bs' := [[(A b, .inr (6, [.ref (A (b + 1)), .ref (A (b + 2)), .int v29.2.2.2.2.1, .ref (A (b + 3)), .int v29.2.2.2.2.2.2.1, .ref (A (b + 4)), .int v29.2.2.2.2.2.2.2.2.1, .ref (A (b + 5)), .ref (A (b + 6)), .int v29.2.2.2.2.2.2.2.2.2.2.2.1, .int v29.2.2.2.2.2.2.2.2.2.2.2.2.1, .int v29.2.2.2.2.2.2.2.2.2.2.2.2.2]))], [(A (b + 1), .inl (gI g, 268, .inl v29.2.2.1))], [(A (b + 2), .inl (gI g, 1340, .inl v29.2.2.2.1))], [(A (b + 3), .inl (gI g, 268, .inl v29.2.2.2.2.2.1))], [(A (b + 4), .inl (gC g, 70, .inl v29.2.2.2.2.2.2.2.1))], [(A (b + 5), .inl (gI g, 3, .inl v29.2.2.2.2.2.2.2.2.2.1))], [(A (b + 6), .inl (gI g, 144, .inl v29.2.2.2.2.2.2.2.2.2.2.1))]]) rfl rfl pm_38 rfl rfl rfl (fun H locs hW => ?_)
                refine lv_istore (lv' := [(7, .int t7), (0, .ref (A b)), (2, .int p2), (3, .int v29.1), (4, .int w12), (5, .int v17.2.1), (6, .int v29.2.1)]) hx hb dX6_works_43 hl (by decide) rfl (fun ls hl => ?_)
                refine lv_aload_n hx hb dX6_works_45 rfl (lv_at hl 1 rfl) ?_
                refine lv_iload hx hb dX6_works_46 (lv_at hl 0 rfl) ?_
                obtain ⟨t9, h10, h⟩ := q_b h
                refine r_cVi C hW (nA := 1) (As := [.int t7]) (rest := []) (c_X6_isWeak l g A b v29.2.2 t7 _ h10) gX6_works_X6_isWeak rfl ⟨rfl, wo_X6_isWeak⟩ (rmk hR rfl rfl) rfl rfl rfl rfl hl.1 (Nat.le_of_ble_eq_true rfl) rz dX6_works_48 (n := 7) (is := [0, 1, 2, 3, 4, 5, 6]) (rs := []) (bs' := [[(A b, .inr (6, [.ref (A (b + 1)), .ref (A (b + 2)), .int v29.2.2.2.2.1, .ref (A (b + 3)), .int v29.2.2.2.2.2.2.1, .ref (A (b + 4)), .int v29.2.2.2.2.2.2.2.2.1, .ref (A (b + 5)), .ref (A (b + 6)), .int v29.2.2.2.2.2.2.2.2.2.2.2.1, .int v29.2.2.2.2.2.2.2.2.2.2.2.2.1, .int v29.2.2.2.2.2.2.2.2.2.2.2.2.2]))], [(A (b + 1), .inl (gI g, 268, .inl v29.2.2.1))], [(A (b + 2), .inl (gI g, 1340, .inl v29.2.2.2.1))], [(A (b + 3), .inl (gI g, 268, .inl v29.2.2.2.2.2.1))], [(A (b + 4), .inl (gC g, 70, .inl v29.2.2.2.2.2.2.2.1))], [(A (b + 5), .inl (gI g, 3, .inl v29.2.2.2.2.2.2.2.2.2.1))], [(A (b + 6), .inl (gI g, 144, .inl v29.2.2.2.2.2.2.2.2.2.2.1))]]) rfl rfl pm_39 rfl rfl rfl (fun H locs hW => ?_)
                refine lv_if_eq (tgt := 97) hx hb dX6_works_51 (by decide) (fun e11 => ?_) (fun e11 => ?_)
                · replace h := q_t e11 h
                  refine lv_iinc (v := (v29.2.1 + 1)) (lv' := [(6, .int (v29.2.1 + 1)), (7, .int t7), (0, .ref (A b)), (2, .int p2), (3, .int v29.1), (4, .int w12), (5, .int v17.2.1)]) hx hb dX6_works_97 hl (k := 6) rfl rfl (by decide) rfl (fun ls hl => ?_)
                  refine lv_goto (tgt := 29) hx hb dX6_works_100 (by decide) ?_
                  exact ih29 (v29.1, (v29.2.1 + 1), v29.2.2) h _ _ hW _ (lv_sub hl [2, 3, 4, 5, 6, 0] rfl)
                · replace h := q_f e11 h
                  refine lv_aload_n hx hb dX6_works_54 rfl (lv_at hl 1 rfl) ?_
                  refine r_get C hW (K := RX6) (T := TX6) (N := 12) (v := .ref (A (b + 1))) 0 0 0 rfl rfl rfl inX6_works_X6 (by decide) (List.mem_of_getElem? (i := 1) rfl) rfl rfl dX6_works_55 ?_
                  refine lv_iconst (v := 5) hx hb dX6_works_58 (by decide) ?_
                  obtain ⟨g12, h⟩ := q_g h
                  refine r_iald C hW 1 0 rfl rfl g12 dX6_works_59 ?_
                  refine lv_if_le (tgt := 97) hx hb dX6_works_60 (by decide) (fun e13 => ?_) (fun e13 => ?_)
                  · replace h := q_t e13 h
                    refine lv_iinc (v := (v29.2.1 + 1)) (lv' := [(6, .int (v29.2.1 + 1)), (7, .int t7), (0, .ref (A b)), (2, .int p2), (3, .int v29.1), (4, .int w12), (5, .int v17.2.1)]) hx hb dX6_works_97 hl (k := 6) rfl rfl (by decide) rfl (fun ls hl => ?_)
                    refine lv_goto (tgt := 29) hx hb dX6_works_100 (by decide) ?_
                    exact ih29 (v29.1, (v29.2.1 + 1), v29.2.2) h _ _ hW _ (lv_sub hl [2, 3, 4, 5, 6, 0] rfl)
                  · replace h := q_f e13 h
                    refine lv_iload_n hx hb dX6_works_63 rfl (lv_at hl 3 rfl) ?_
                    refine lv_aload_n hx hb dX6_works_64 rfl (lv_at hl 1 rfl) ?_
                    refine r_get C hW (K := RX6) (T := TX6) (N := 12) (v := .ref (A (b + 1))) 0 0 0 rfl rfl rfl inX6_works_X6 (by decide) (List.mem_of_getElem? (i := 1) rfl) rfl rfl dX6_works_65 ?_
                    refine lv_iconst (v := 1) hx hb dX6_works_68 (by decide) ?_
                    obtain ⟨g14, h⟩ := q_g h
                    refine r_iald C hW 1 0 rfl rfl g14 dX6_works_69 ?_
                    refine lv_icmp_ge (tgt := 97) hx hb dX6_works_70 (by decide) (fun e15 => ?_) (fun e15 => ?_)
                    · replace h := q_t e15 h
                      refine lv_iinc (v := (v29.2.1 + 1)) (lv' := [(6, .int (v29.2.1 + 1)), (7, .int t7), (0, .ref (A b)), (2, .int p2), (3, .int v29.1), (4, .int w12), (5, .int v17.2.1)]) hx hb dX6_works_97 hl (k := 6) rfl rfl (by decide) rfl (fun ls hl => ?_)
                      refine lv_goto (tgt := 29) hx hb dX6_works_100 (by decide) ?_
                      exact ih29 (v29.1, (v29.2.1 + 1), v29.2.2) h _ _ hW _ (lv_sub hl [2, 3, 4, 5, 6, 0] rfl)
                    · replace h := q_f e15 h
                      refine lv_aload_n hx hb dX6_works_73 rfl (lv_at hl 1 rfl) ?_
                      refine r_get C hW (K := RX6) (T := TX6) (N := 12) (v := .ref (A (b + 1))) 0 0 0 rfl rfl rfl inX6_works_X6 (by decide) (List.mem_of_getElem? (i := 1) rfl) rfl rfl dX6_works_74 ?_
                      refine lv_iload hx hb dX6_works_77 (lv_at hl 0 rfl) ?_
                      refine lv_iconst (v := 1) hx hb dX6_works_79 (by decide) ?_
                      refine lv_iadd hx hb dX6_works_80 ?_
                      refine lv_bipush (v := 100) hx hb dX6_works_81 (by decide) ?_
                      obtain ⟨g16, h⟩ := q_g h
                      refine r_iast C hW (bs' := [[(A b, .inr (6, [.ref (A (b + 1)), .ref (A (b + 2)), .int v29.2.2.2.2.1, .ref (A (b + 3)), .int v29.2.2.2.2.2.2.1, .ref (A (b + 4)), .int v29.2.2.2.2.2.2.2.2.1, .ref (A (b + 5)), .ref (A (b + 6)), .int v29.2.2.2.2.2.2.2.2.2.2.2.1, .int v29.2.2.2.2.2.2.2.2.2.2.2.2.1, .int v29.2.2.2.2.2.2.2.2.2.2.2.2.2]))], [(A (b + 1), .inl (gI g, 268, .inl (upd v29.2.2.1 (t7 + 1).toNatClampNeg 100)))], [(A (b + 2), .inl (gI g, 1340, .inl v29.2.2.2.1))], [(A (b + 3), .inl (gI g, 268, .inl v29.2.2.2.2.2.1))], [(A (b + 4), .inl (gC g, 70, .inl v29.2.2.2.2.2.2.2.1))], [(A (b + 5), .inl (gI g, 3, .inl v29.2.2.2.2.2.2.2.2.2.1))], [(A (b + 6), .inl (gI g, 144, .inl v29.2.2.2.2.2.2.2.2.2.2.1))]]) 1 0 rfl rfl g16 dX6_works_83 rfl (fun H locs hW => ?_)
                      refine lv_aload_n hx hb dX6_works_84 rfl (lv_at hl 1 rfl) ?_
                      refine r_get C hW (K := RX6) (T := TX6) (N := 12) (v := .ref (A (b + 1))) 0 0 0 rfl rfl rfl inX6_works_X6 (by decide) (List.mem_of_getElem? (i := 1) rfl) rfl rfl dX6_works_85 ?_
                      refine lv_iconst (v := 5) hx hb dX6_works_88 (by decide) ?_
                      refine lv_dup2_11 hx hb dX6_works_89 rfl rfl ?_
                      obtain ⟨g17, h⟩ := q_g h
                      refine r_iald C hW 1 0 rfl rfl g17 dX6_works_90 ?_
                      refine lv_iconst (v := 1) hx hb dX6_works_91 (by decide) ?_
                      refine lv_isub hx hb dX6_works_92 ?_
                      obtain ⟨g18, h⟩ := q_g h
                      refine r_iast C hW (bs' := [[(A b, .inr (6, [.ref (A (b + 1)), .ref (A (b + 2)), .int v29.2.2.2.2.1, .ref (A (b + 3)), .int v29.2.2.2.2.2.2.1, .ref (A (b + 4)), .int v29.2.2.2.2.2.2.2.2.1, .ref (A (b + 5)), .ref (A (b + 6)), .int v29.2.2.2.2.2.2.2.2.2.2.2.1, .int v29.2.2.2.2.2.2.2.2.2.2.2.2.1, .int v29.2.2.2.2.2.2.2.2.2.2.2.2.2]))], [(A (b + 1), .inl (gI g, 268, .inl (upd (upd v29.2.2.1 (t7 + 1).toNatClampNeg 100) (5 : Int32).toNatClampNeg (((upd v29.2.2.1 (t7 + 1).toNatClampNeg 100) (5 : Int32).toNatClampNeg) - 1))))], [(A (b + 2), .inl (gI g, 1340, .inl v29.2.2.2.1))], [(A (b + 3), .inl (gI g, 268, .inl v29.2.2.2.2.2.1))], [(A (b + 4), .inl (gC g, 70, .inl v29.2.2.2.2.2.2.2.1))], [(A (b + 5), .inl (gI g, 3, .inl v29.2.2.2.2.2.2.2.2.2.1))], [(A (b + 6), .inl (gI g, 144, .inl v29.2.2.2.2.2.2.2.2.2.2.1))]]) 1 0 rfl rfl g18 dX6_works_93 rfl (fun H locs hW => ?_)
                      refine lv_iinc (v := (v29.1 + 1)) (lv' := [(3, .int (v29.1 + 1)), (7, .int t7), (0, .ref (A b)), (2, .int p2), (4, .int w12), (5, .int v17.2.1), (6, .int v29.2.1)]) hx hb dX6_works_94 hl (k := 3) rfl rfl (by decide) rfl (fun ls hl => ?_)
                      refine lv_iinc (v := (v29.2.1 + 1)) (lv' := [(6, .int (v29.2.1 + 1)), (3, .int (v29.1 + 1)), (7, .int t7), (0, .ref (A b)), (2, .int p2), (4, .int w12), (5, .int v17.2.1)]) hx hb dX6_works_97 hl (k := 6) rfl rfl (by decide) rfl (fun ls hl => ?_)
                      refine lv_goto (tgt := 29) hx hb dX6_works_100 (by decide) ?_
                      exact ih29 ((v29.1 + 1), (v29.2.1 + 1), ((upd (upd v29.2.2.1 (t7 + 1).toNatClampNeg 100) (5 : Int32).toNatClampNeg (((upd v29.2.2.1 (t7 + 1).toNatClampNeg 100) (5 : Int32).toNatClampNeg) - 1)), v29.2.2.2.1, v29.2.2.2.2.1, v29.2.2.2.2.2.1, v29.2.2.2.2.2.2.1, v29.2.2.2.2.2.2.2.1, v29.2.2.2.2.2.2.2.2.1, v29.2.2.2.2.2.2.2.2.2.1, v29.2.2.2.2.2.2.2.2.2.2.1, v29.2.2.2.2.2.2.2.2.2.2.2.1, v29.2.2.2.2.2.2.2.2.2.2.2.2.1, v29.2.2.2.2.2.2.2.2.2.2.2.2.2)) h _ _ hW _ (lv_sub hl [3, 4, 1, 5, 6, 0] rfl)
          exact L29 3000 (v17.1, 0, v17.2.2) h _ _ hW _ (lv_sub hl [1, 2, 3, 4, 5, 0] rfl)
    exact L17 3000 (0, p1, x) h _ _ hW _ (lv_sub hl [2, 4, 5, 1, 0] rfl)
  refine lv_icmp_gt (tgt := 11) hx hb dX6_works_4 (by decide) (fun e19 => ?_) (fun e19 => ?_)
  · replace h := q_t e19 h
    refine lv_iconst (v := (-1)) hx hb dX6_works_11 (by decide) ?_
    exact J12 (-1) h _ _ hW _ (lv_sub hl [1, 2, 3, 0] rfl)
  · replace h := q_f e19 h
    refine lv_iconst (v := 1) hx hb dX6_works_7 (by decide) ?_
    refine lv_goto (tgt := 12) hx hb dX6_works_8 (by decide) ?_
    exact J12 1 h _ _ hW _ (lv_sub hl [1, 2, 3, 0] rfl)
def f_X6_night (x : TX6s) (p1 : Int32) (p2 : Int32) : Option (Int32 × TX6s) :=
(f_X6_whyNotNight x p1 p2).bind fun t1 =>
if 0 ≤ t1 then (
(f_X6_record x).bind fun t4 =>
(f_X6_works t4 p1 p2).bind fun t6 =>
some (t6.1, t6.2))
else (
some (t1, x))
theorem wo_X6_night : wordsOk yX6_night 2 := by decide +kernel
set_option maxHeartbeats 4000000 in
set_option maxRecDepth 100000 in
theorem c_X6_night (l : Launch) (g : GG) (A : Nat → Nat) (b : Nat) (x : TX6s) (p1 : Int32) (p2 : Int32) (r : Int32) (x' : TX6s) (h : f_X6_night x p1 p2 = some (r, x')) : CI l yX6_night wsX6_night 3 69 g [.ref (A b), .int p1, .int p2] (wX6 g A b x) r (wX6 g A b x') := by
  refine CI.mk (own := RX6) (by decide) rfl rfl (Nat.le_of_ble_eq_true rfl) ?_
  intro p e R s m args below meth c Z Q C E hR H hW ls hl
  have hx := C.1.1
  have hb := C.1.2.1
  have hown := C.1.2.2.2.1
  replace hW : WdG g Z s.heap H [] [[(A b, .inr (6, [.ref (A (b + 1)), .ref (A (b + 2)), .int x.2.2.1, .ref (A (b + 3)), .int x.2.2.2.2.1, .ref (A (b + 4)), .int x.2.2.2.2.2.2.1, .ref (A (b + 5)), .ref (A (b + 6)), .int x.2.2.2.2.2.2.2.2.2.1, .int x.2.2.2.2.2.2.2.2.2.2.1, .int x.2.2.2.2.2.2.2.2.2.2.2]))], [(A (b + 1), .inl (gI g, 268, .inl x.1))], [(A (b + 2), .inl (gI g, 1340, .inl x.2.1))], [(A (b + 3), .inl (gI g, 268, .inl x.2.2.2.1))], [(A (b + 4), .inl (gC g, 70, .inl x.2.2.2.2.2.1))], [(A (b + 5), .inl (gI g, 3, .inl x.2.2.2.2.2.2.2.1))], [(A (b + 6), .inl (gI g, 144, .inl x.2.2.2.2.2.2.2.2.1))]] := hW.re rfl
  replace hl : lv_has ls 4 [(0, .ref (A b)), (1, .int p1), (2, .int p2)] := hl
  unfold f_X6_night at h
  refine lv_aload_n hx hb dX6_night_0 rfl (lv_at hl 0 rfl) ?_
  refine lv_iload_n hx hb dX6_night_1 rfl (lv_at hl 1 rfl) ?_
  refine lv_iload_n hx hb dX6_night_2 rfl (lv_at hl 2 rfl) ?_
  obtain ⟨t1, h2, h⟩ := q_b h
  refine r_cVi C hW (nA := 2) (As := [.int p1, .int p2]) (rest := []) (c_X6_whyNotNight l g A b x p1 p2 _ h2) gX6_night_X6_whyNotNight rfl ⟨rfl, wo_X6_whyNotNight⟩ (rmk hR rfl rfl) rfl rfl rfl rfl hl.1 (Nat.le_of_ble_eq_true rfl) rz dX6_night_3 (n := 7) (is := [0, 1, 2, 3, 4, 5, 6]) (rs := []) (bs' := [[(A b, .inr (6, [.ref (A (b + 1)), .ref (A (b + 2)), .int x.2.2.1, .ref (A (b + 3)), .int x.2.2.2.2.1, .ref (A (b + 4)), .int x.2.2.2.2.2.2.1, .ref (A (b + 5)), .ref (A (b + 6)), .int x.2.2.2.2.2.2.2.2.2.1, .int x.2.2.2.2.2.2.2.2.2.2.1, .int x.2.2.2.2.2.2.2.2.2.2.2]))], [(A (b + 1), .inl (gI g, 268, .inl x.1))], [(A (b + 2), .inl (gI g, 1340, .inl x.2.1))], [(A (b + 3), .inl (gI g, 268, .inl x.2.2.2.1))], [(A (b + 4), .inl (gC g, 70, .inl x.2.2.2.2.2.1))], [(A (b + 5), .inl (gI g, 3, .inl x.2.2.2.2.2.2.2.1))], [(A (b + 6), .inl (gI g, 144, .inl x.2.2.2.2.2.2.2.2.1))]]) rfl rfl pm_39 rfl rfl rfl (fun H locs hW => ?_)
  refine lv_istore_n (lv' := [(3, .int t1), (0, .ref (A b)), (1, .int p1), (2, .int p2)]) hx hb dX6_night_6 rfl hl (by decide) rfl (fun ls hl => ?_)
  refine lv_iload_n hx hb dX6_night_7 rfl (lv_at hl 0 rfl) ?_
  refine lv_if_ge (tgt := 13) hx hb dX6_night_8 (by decide) (fun e3 => ?_) (fun e3 => ?_)
  · replace h := q_t e3 h
    refine lv_aload_n hx hb dX6_night_13 rfl (lv_at hl 1 rfl) ?_
    obtain ⟨t4, h5, h⟩ := q_b h
    refine r_cVv C hW (nA := 0) (As := []) (rest := []) (c_X6_record l g A b x _ h5) gX6_night_X6_record rfl ⟨rfl, wo_X6_record⟩ (rmk hR rfl rfl) rfl rfl rfl rfl hl.1 (Nat.le_of_ble_eq_true rfl) rz dX6_night_14 (n := 7) (is := [0, 1, 2, 3, 4, 5, 6]) (rs := []) (bs' := [[(A b, .inr (6, [.ref (A (b + 1)), .ref (A (b + 2)), .int t4.2.2.1, .ref (A (b + 3)), .int t4.2.2.2.2.1, .ref (A (b + 4)), .int t4.2.2.2.2.2.2.1, .ref (A (b + 5)), .ref (A (b + 6)), .int t4.2.2.2.2.2.2.2.2.2.1, .int t4.2.2.2.2.2.2.2.2.2.2.1, .int t4.2.2.2.2.2.2.2.2.2.2.2]))], [(A (b + 1), .inl (gI g, 268, .inl t4.1))], [(A (b + 2), .inl (gI g, 1340, .inl t4.2.1))], [(A (b + 3), .inl (gI g, 268, .inl t4.2.2.2.1))], [(A (b + 4), .inl (gC g, 70, .inl t4.2.2.2.2.2.1))], [(A (b + 5), .inl (gI g, 3, .inl t4.2.2.2.2.2.2.2.1))], [(A (b + 6), .inl (gI g, 144, .inl t4.2.2.2.2.2.2.2.2.1))]]) rfl rfl pm_39 rfl rfl rfl (fun H locs hW => ?_)
    refine lv_aload_n hx hb dX6_night_17 rfl (lv_at hl 1 rfl) ?_
    refine lv_iload_n hx hb dX6_night_18 rfl (lv_at hl 2 rfl) ?_
    refine lv_iload_n hx hb dX6_night_19 rfl (lv_at hl 3 rfl) ?_
    obtain ⟨t6, h7, h⟩ := q_b h
    refine r_cVi C hW (nA := 2) (As := [.int p1, .int p2]) (rest := []) (c_X6_works l g A b t4 p1 p2 _ _ h7) gX6_night_X6_works rfl ⟨rfl, wo_X6_works⟩ (rmk hR rfl rfl) rfl rfl rfl rfl hl.1 (Nat.le_of_ble_eq_true rfl) rz dX6_night_20 (n := 7) (is := [0, 1, 2, 3, 4, 5, 6]) (rs := []) (bs' := [[(A b, .inr (6, [.ref (A (b + 1)), .ref (A (b + 2)), .int t6.2.2.2.1, .ref (A (b + 3)), .int t6.2.2.2.2.2.1, .ref (A (b + 4)), .int t6.2.2.2.2.2.2.2.1, .ref (A (b + 5)), .ref (A (b + 6)), .int t6.2.2.2.2.2.2.2.2.2.2.1, .int t6.2.2.2.2.2.2.2.2.2.2.2.1, .int t6.2.2.2.2.2.2.2.2.2.2.2.2]))], [(A (b + 1), .inl (gI g, 268, .inl t6.2.1))], [(A (b + 2), .inl (gI g, 1340, .inl t6.2.2.1))], [(A (b + 3), .inl (gI g, 268, .inl t6.2.2.2.2.1))], [(A (b + 4), .inl (gC g, 70, .inl t6.2.2.2.2.2.2.1))], [(A (b + 5), .inl (gI g, 3, .inl t6.2.2.2.2.2.2.2.2.1))], [(A (b + 6), .inl (gI g, 144, .inl t6.2.2.2.2.2.2.2.2.2.1))]]) rfl rfl pm_39 rfl rfl rfl (fun H locs hW => ?_)
    cases h
    exact E _ _ _ _ _ hW rfl rfl dX6_night_23
  · replace h := q_f e3 h
    refine lv_iload_n hx hb dX6_night_11 rfl (lv_at hl 0 rfl) ?_
    cases h
    exact E _ _ _ _ _ hW rfl rfl dX6_night_12
