def f_X6_append (x : TX6s) (p1 : Int32) : Option (Int32 × TX6s) :=
(f_X6_in p1 33 126).bind fun t1 =>
if t1 = 0 then (
some ((-2), x))
else (
if x.2.2.2.2.2.2.1 = 70 then (
some ((-4), x))
else (
if x.2.2.2.2.2.2.1 < 0 ∨ 70 ≤ (x.2.2.2.2.2.2.1).toNatClampNeg then none else
some ((x.2.2.2.2.2.2.1 + 1), (x.1, x.2.1, x.2.2.1, x.2.2.2.1, x.2.2.2.2.1, (upd x.2.2.2.2.2.1 (x.2.2.2.2.2.2.1).toNatClampNeg (vp_nar .char (((p1).toUInt32 % 65536).toInt32))), (x.2.2.2.2.2.2.1 + 1), x.2.2.2.2.2.2.2.1, x.2.2.2.2.2.2.2.2.1, x.2.2.2.2.2.2.2.2.2.1, x.2.2.2.2.2.2.2.2.2.2.1, x.2.2.2.2.2.2.2.2.2.2.2))))
theorem wo_X6_append : wordsOk yX6_append 1 := by decide +kernel
theorem inX6_append_X6 : ∀ w ∈ wsX60, w ∈ wsX6_append := fun _ h => List.mem_cons_of_mem _ (List.mem_append_right _ h)
set_option maxHeartbeats 4000000 in
set_option maxRecDepth 100000 in
theorem c_X6_append (l : Launch) (g : GG) (A : Nat → Nat) (b : Nat) (x : TX6s) (p1 : Int32) (r : Int32) (x' : TX6s) (h : f_X6_append x p1 = some (r, x')) : CI l yX6_append wsX6_append 1 22 g [.ref (A b), .int p1] (wX6 g A b x) r (wX6 g A b x') := by
  refine CI.mk (own := RX6) (by decide) rfl rfl (Nat.le_of_ble_eq_true rfl) ?_
  intro p e R s m args below meth c Z Q C E hR H hW ls hl
  have hx := C.1.1
  have hb := C.1.2.1
  have hown := C.1.2.2.2.1
  replace hW : WdG g Z s.heap H [] [[(A b, .inr (6, [.ref (A (b + 1)), .ref (A (b + 2)), .int x.2.2.1, .ref (A (b + 3)), .int x.2.2.2.2.1, .ref (A (b + 4)), .int x.2.2.2.2.2.2.1, .ref (A (b + 5)), .ref (A (b + 6)), .int x.2.2.2.2.2.2.2.2.2.1, .int x.2.2.2.2.2.2.2.2.2.2.1, .int x.2.2.2.2.2.2.2.2.2.2.2]))], [(A (b + 1), .inl (gI g, 268, .inl x.1))], [(A (b + 2), .inl (gI g, 1340, .inl x.2.1))], [(A (b + 3), .inl (gI g, 268, .inl x.2.2.2.1))], [(A (b + 4), .inl (gC g, 70, .inl x.2.2.2.2.2.1))], [(A (b + 5), .inl (gI g, 3, .inl x.2.2.2.2.2.2.2.1))], [(A (b + 6), .inl (gI g, 144, .inl x.2.2.2.2.2.2.2.2.1))]] := hW.re rfl
  replace hl : lv_has ls 2 [(0, .ref (A b)), (1, .int p1)] := hl
  unfold f_X6_append at h
  refine lv_iload_n hx hb dX6_append_0 rfl (lv_at hl 1 rfl) ?_
  refine lv_bipush (v := 33) hx hb dX6_append_1 (by decide) ?_
  refine lv_bipush (v := 126) hx hb dX6_append_3 (by decide) ?_
  obtain ⟨t1, h2, h⟩ := q_b h
  refine r_cSi C hW (nA := 3) (As := [.int p1, .int 33, .int 126]) (rest := []) (c_X6_in l g p1 33 126 _ h2) gX6_append_X6_in rfl wo_X6_in (rmk hR rfl rfl) rfl rfl hl.1 (Nat.le_of_ble_eq_true rfl) rz dX6_append_5 (n := 7) (is := []) (rs := [0, 1, 2, 3, 4, 5, 6]) (bs' := [[(A b, .inr (6, [.ref (A (b + 1)), .ref (A (b + 2)), .int x.2.2.1, .ref (A (b + 3)), .int x.2.2.2.2.1, .ref (A (b + 4)), .int x.2.2.2.2.2.2.1, .ref (A (b + 5)), .ref (A (b + 6)), .int x.2.2.2.2.2.2.2.2.2.1, .int x.2.2.2.2.2.2.2.2.2.2.1, .int x.2.2.2.2.2.2.2.2.2.2.2]))], [(A (b + 1), .inl (gI g, 268, .inl x.1))], [(A (b + 2), .inl (gI g, 1340, .inl x.2.1))], [(A (b + 3), .inl (gI g, 268, .inl x.2.2.2.1))], [(A (b + 4), .inl (gC g, 70, .inl x.2.2.2.2.2.1))], [(A (b + 5), .inl (gI g, 3, .inl x.2.2.2.2.2.2.2.1))], [(A (b + 6), .inl (gI g, 144, .inl x.2.2.2.2.2.2.2.2.1))]]) rfl rfl pm_38 rfl rfl rfl (fun H locs hW => ?_)
  refine lv_if_ne (tgt := 14) hx hb dX6_append_8 (by decide) (fun e3 => ?_) (fun e3 => ?_)
  · replace h := q_f e3 h
    refine lv_aload_n hx hb dX6_append_14 rfl (lv_at hl 0 rfl) ?_
    refine r_get C hW (K := RX6) (T := TX6) (N := 12) (v := .int x.2.2.2.2.2.2.1) 0 0 6 rfl rfl rfl inX6_append_X6 (by decide) (List.mem_of_getElem? (i := 1) rfl) rfl rfl dX6_append_15 ?_
    refine lv_bipush (v := 70) hx hb dX6_append_18 (by decide) ?_
    refine lv_icmp_ne (tgt := 26) hx hb dX6_append_20 (by decide) (fun e4 => ?_) (fun e4 => ?_)
    · replace h := q_f e4 h
      refine lv_aload_n hx hb dX6_append_26 rfl (lv_at hl 0 rfl) ?_
      refine r_get C hW (K := RX6) (T := TX6) (N := 12) (v := .ref (A (b + 4))) 0 0 5 rfl rfl rfl inX6_append_X6 (by decide) (List.mem_of_getElem? (i := 2) rfl) rfl rfl dX6_append_27 ?_
      refine lv_aload_n hx hb dX6_append_30 rfl (lv_at hl 0 rfl) ?_
      refine r_get C hW (K := RX6) (T := TX6) (N := 12) (v := .int x.2.2.2.2.2.2.1) 0 0 6 rfl rfl rfl inX6_append_X6 (by decide) (List.mem_of_getElem? (i := 1) rfl) rfl rfl dX6_append_31 ?_
      refine lv_iload_n hx hb dX6_append_34 rfl (lv_at hl 1 rfl) ?_
      refine lv_i2c (v := ((p1).toUInt32 % 65536).toInt32) hx hb dX6_append_35 rfl ?_
      obtain ⟨g5, h⟩ := q_g h
      refine r_cast C hW (bs' := [[(A b, .inr (6, [.ref (A (b + 1)), .ref (A (b + 2)), .int x.2.2.1, .ref (A (b + 3)), .int x.2.2.2.2.1, .ref (A (b + 4)), .int x.2.2.2.2.2.2.1, .ref (A (b + 5)), .ref (A (b + 6)), .int x.2.2.2.2.2.2.2.2.2.1, .int x.2.2.2.2.2.2.2.2.2.2.1, .int x.2.2.2.2.2.2.2.2.2.2.2]))], [(A (b + 1), .inl (gI g, 268, .inl x.1))], [(A (b + 2), .inl (gI g, 1340, .inl x.2.1))], [(A (b + 3), .inl (gI g, 268, .inl x.2.2.2.1))], [(A (b + 4), .inl (gC g, 70, .inl (upd x.2.2.2.2.2.1 (x.2.2.2.2.2.2.1).toNatClampNeg (vp_nar .char (((p1).toUInt32 % 65536).toInt32)))))], [(A (b + 5), .inl (gI g, 3, .inl x.2.2.2.2.2.2.2.1))], [(A (b + 6), .inl (gI g, 144, .inl x.2.2.2.2.2.2.2.2.1))]]) 4 0 rfl rfl g5 dX6_append_36 rfl (fun H locs hW => ?_)
      refine lv_aload_n hx hb dX6_append_37 rfl (lv_at hl 0 rfl) ?_
      refine lv_dup hx hb dX6_append_38 rfl ?_
      refine r_get C hW (K := RX6) (T := TX6) (N := 12) (v := .int x.2.2.2.2.2.2.1) 0 0 6 rfl rfl rfl inX6_append_X6 (by decide) (List.mem_of_getElem? (i := 1) rfl) rfl rfl dX6_append_39 ?_
      refine lv_iconst (v := 1) hx hb dX6_append_42 (by decide) ?_
      refine lv_iadd hx hb dX6_append_43 ?_
      refine r_put C hW (bs' := [[(A b, .inr (6, [.ref (A (b + 1)), .ref (A (b + 2)), .int x.2.2.1, .ref (A (b + 3)), .int x.2.2.2.2.1, .ref (A (b + 4)), .int (x.2.2.2.2.2.2.1 + 1), .ref (A (b + 5)), .ref (A (b + 6)), .int x.2.2.2.2.2.2.2.2.2.1, .int x.2.2.2.2.2.2.2.2.2.2.1, .int x.2.2.2.2.2.2.2.2.2.2.2]))], [(A (b + 1), .inl (gI g, 268, .inl x.1))], [(A (b + 2), .inl (gI g, 1340, .inl x.2.1))], [(A (b + 3), .inl (gI g, 268, .inl x.2.2.2.1))], [(A (b + 4), .inl (gC g, 70, .inl (upd x.2.2.2.2.2.1 (x.2.2.2.2.2.2.1).toNatClampNeg (vp_nar .char (((p1).toUInt32 % 65536).toInt32)))))], [(A (b + 5), .inl (gI g, 3, .inl x.2.2.2.2.2.2.2.1))], [(A (b + 6), .inl (gI g, 144, .inl x.2.2.2.2.2.2.2.2.1))]]) (K := RX6) (T := TX6) (N := 12) 0 0 6 rfl rfl rfl inX6_append_X6 tyX6 tyX6_ok nmX6 (by decide) (List.mem_of_getElem? (i := 1) rfl) rfl rfl (tyX6_ok 6 (by decide)) rfl rfl (Nat.le_of_ble_eq_true rfl) dX6_append_44 rfl (fun H locs hW => ?_)
      refine lv_aload_n hx hb dX6_append_47 rfl (lv_at hl 0 rfl) ?_
      refine r_get C hW (K := RX6) (T := TX6) (N := 12) (v := .int (x.2.2.2.2.2.2.1 + 1)) 0 0 6 rfl rfl rfl inX6_append_X6 (by decide) (List.mem_of_getElem? (i := 1) rfl) rfl rfl dX6_append_48 ?_
      cases h
      exact E _ _ _ _ _ hW rfl rfl dX6_append_51
    · replace h := q_t e4 h
      refine lv_bipush (v := (-4)) hx hb dX6_append_23 (by decide) ?_
      cases h
      exact E _ _ _ _ _ hW rfl rfl dX6_append_25
  · replace h := q_t e3 h
    refine lv_bipush (v := (-2)) hx hb dX6_append_11 (by decide) ?_
    cases h
    exact E _ _ _ _ _ hW rfl rfl dX6_append_13
def f_X6_clearText (x : TX6s) : Option (Int32 × TX6s) :=
some (x.2.2.2.2.2.2.1, (x.1, x.2.1, x.2.2.1, x.2.2.2.1, x.2.2.2.2.1, x.2.2.2.2.2.1, 0, x.2.2.2.2.2.2.2.1, x.2.2.2.2.2.2.2.2.1, x.2.2.2.2.2.2.2.2.2.1, x.2.2.2.2.2.2.2.2.2.2.1, x.2.2.2.2.2.2.2.2.2.2.2))
theorem wo_X6_clearText : wordsOk yX6_clearText 0 := by decide +kernel
theorem inX6_clearText_X6 : ∀ w ∈ wsX60, w ∈ wsX6_clearText := fun _ h => List.mem_cons_of_mem _ (List.mem_append_right _ h)
set_option maxHeartbeats 4000000 in
set_option maxRecDepth 100000 in
theorem c_X6_clearText (l : Launch) (g : GG) (A : Nat → Nat) (b : Nat) (x : TX6s) (r : Int32) (x' : TX6s) (h : f_X6_clearText x = some (r, x')) : CI l yX6_clearText wsX6_clearText 0 0 g [.ref (A b)] (wX6 g A b x) r (wX6 g A b x') := by
  refine CI.mk (own := RX6) (by decide) rfl rfl (Nat.le_of_ble_eq_true rfl) ?_
  intro p e R s m args below meth c Z Q C E hR H hW ls hl
  have hx := C.1.1
  have hb := C.1.2.1
  have hown := C.1.2.2.2.1
  replace hW : WdG g Z s.heap H [] [[(A b, .inr (6, [.ref (A (b + 1)), .ref (A (b + 2)), .int x.2.2.1, .ref (A (b + 3)), .int x.2.2.2.2.1, .ref (A (b + 4)), .int x.2.2.2.2.2.2.1, .ref (A (b + 5)), .ref (A (b + 6)), .int x.2.2.2.2.2.2.2.2.2.1, .int x.2.2.2.2.2.2.2.2.2.2.1, .int x.2.2.2.2.2.2.2.2.2.2.2]))], [(A (b + 1), .inl (gI g, 268, .inl x.1))], [(A (b + 2), .inl (gI g, 1340, .inl x.2.1))], [(A (b + 3), .inl (gI g, 268, .inl x.2.2.2.1))], [(A (b + 4), .inl (gC g, 70, .inl x.2.2.2.2.2.1))], [(A (b + 5), .inl (gI g, 3, .inl x.2.2.2.2.2.2.2.1))], [(A (b + 6), .inl (gI g, 144, .inl x.2.2.2.2.2.2.2.2.1))]] := hW.re rfl
  replace hl : lv_has ls 2 [(0, .ref (A b))] := hl
  unfold f_X6_clearText at h
  refine lv_aload_n hx hb dX6_clearText_0 rfl (lv_at hl 0 rfl) ?_
  refine r_get C hW (K := RX6) (T := TX6) (N := 12) (v := .int x.2.2.2.2.2.2.1) 0 0 6 rfl rfl rfl inX6_clearText_X6 (by decide) (List.mem_of_getElem? (i := 1) rfl) rfl rfl dX6_clearText_1 ?_
  refine lv_istore_n (lv' := [(1, .int x.2.2.2.2.2.2.1), (0, .ref (A b))]) hx hb dX6_clearText_4 rfl hl (by decide) rfl (fun ls hl => ?_)
  refine lv_aload_n hx hb dX6_clearText_5 rfl (lv_at hl 1 rfl) ?_
  refine lv_iconst (v := 0) hx hb dX6_clearText_6 (by decide) ?_
  refine r_put C hW (bs' := [[(A b, .inr (6, [.ref (A (b + 1)), .ref (A (b + 2)), .int x.2.2.1, .ref (A (b + 3)), .int x.2.2.2.2.1, .ref (A (b + 4)), .int 0, .ref (A (b + 5)), .ref (A (b + 6)), .int x.2.2.2.2.2.2.2.2.2.1, .int x.2.2.2.2.2.2.2.2.2.2.1, .int x.2.2.2.2.2.2.2.2.2.2.2]))], [(A (b + 1), .inl (gI g, 268, .inl x.1))], [(A (b + 2), .inl (gI g, 1340, .inl x.2.1))], [(A (b + 3), .inl (gI g, 268, .inl x.2.2.2.1))], [(A (b + 4), .inl (gC g, 70, .inl x.2.2.2.2.2.1))], [(A (b + 5), .inl (gI g, 3, .inl x.2.2.2.2.2.2.2.1))], [(A (b + 6), .inl (gI g, 144, .inl x.2.2.2.2.2.2.2.2.1))]]) (K := RX6) (T := TX6) (N := 12) 0 0 6 rfl rfl rfl inX6_clearText_X6 tyX6 tyX6_ok nmX6 (by decide) (List.mem_of_getElem? (i := 1) rfl) rfl rfl (tyX6_ok 6 (by decide)) rfl rfl (Nat.le_of_ble_eq_true rfl) dX6_clearText_7 rfl (fun H locs hW => ?_)
  refine lv_iload_n hx hb dX6_clearText_10 rfl (lv_at hl 0 rfl) ?_
  cases h
  exact E _ _ _ _ _ hW rfl rfl dX6_clearText_11
def f_X6_letter (x : TX6s) : Option (Int32) :=
if x.2.2.2.2.2.2.1 ≤ x.2.2.2.2.2.2.2.2.2.2.1 then (
some (-6))
else (
if x.2.2.2.2.2.2.2.2.2.2.1 < 0 ∨ 70 ≤ (x.2.2.2.2.2.2.2.2.2.2.1).toNatClampNeg then none else
some (x.2.2.2.2.2.1 (x.2.2.2.2.2.2.2.2.2.2.1).toNatClampNeg))
theorem wo_X6_letter : wordsOk yX6_letter 0 := by decide +kernel
theorem inX6_letter_X6 : ∀ w ∈ wsX60, w ∈ wsX6_letter := fun _ h => List.mem_cons_of_mem _ (List.mem_append_right _ h)
set_option maxHeartbeats 4000000 in
set_option maxRecDepth 100000 in
theorem c_X6_letter (l : Launch) (g : GG) (A : Nat → Nat) (b : Nat) (x : TX6s) (r : Int32) (h : f_X6_letter x = some r) : CI l yX6_letter wsX6_letter 0 0 g [.ref (A b)] (wX6 g A b x) r (wX6 g A b x) := by
  refine CI.mk (own := RX6) (by decide) rfl rfl (Nat.le_of_ble_eq_true rfl) ?_
  intro p e R s m args below meth c Z Q C E hR H hW ls hl
  have hx := C.1.1
  have hb := C.1.2.1
  have hown := C.1.2.2.2.1
  replace hW : WdG g Z s.heap H [] [[(A b, .inr (6, [.ref (A (b + 1)), .ref (A (b + 2)), .int x.2.2.1, .ref (A (b + 3)), .int x.2.2.2.2.1, .ref (A (b + 4)), .int x.2.2.2.2.2.2.1, .ref (A (b + 5)), .ref (A (b + 6)), .int x.2.2.2.2.2.2.2.2.2.1, .int x.2.2.2.2.2.2.2.2.2.2.1, .int x.2.2.2.2.2.2.2.2.2.2.2]))], [(A (b + 1), .inl (gI g, 268, .inl x.1))], [(A (b + 2), .inl (gI g, 1340, .inl x.2.1))], [(A (b + 3), .inl (gI g, 268, .inl x.2.2.2.1))], [(A (b + 4), .inl (gC g, 70, .inl x.2.2.2.2.2.1))], [(A (b + 5), .inl (gI g, 3, .inl x.2.2.2.2.2.2.2.1))], [(A (b + 6), .inl (gI g, 144, .inl x.2.2.2.2.2.2.2.2.1))]] := hW.re rfl
  replace hl : lv_has ls 1 [(0, .ref (A b))] := hl
  unfold f_X6_letter at h
  refine lv_aload_n hx hb dX6_letter_0 rfl (lv_at hl 0 rfl) ?_
  refine r_get C hW (K := RX6) (T := TX6) (N := 12) (v := .int x.2.2.2.2.2.2.2.2.2.2.1) 0 0 10 rfl rfl rfl inX6_letter_X6 (by decide) (List.mem_of_getElem? (i := 1) rfl) rfl rfl dX6_letter_1 ?_
  refine lv_aload_n hx hb dX6_letter_4 rfl (lv_at hl 0 rfl) ?_
  refine r_get C hW (K := RX6) (T := TX6) (N := 12) (v := .int x.2.2.2.2.2.2.1) 0 0 6 rfl rfl rfl inX6_letter_X6 (by decide) (List.mem_of_getElem? (i := 2) rfl) rfl rfl dX6_letter_5 ?_
  refine lv_icmp_ge (tgt := 23) hx hb dX6_letter_8 (by decide) (fun e1 => ?_) (fun e1 => ?_)
  · replace h := q_t e1 h
    refine lv_bipush (v := (-6)) hx hb dX6_letter_23 (by decide) ?_
    cases h
    exact E _ _ _ _ _ hW rfl rfl dX6_letter_25
  · replace h := q_f e1 h
    refine lv_aload_n hx hb dX6_letter_11 rfl (lv_at hl 0 rfl) ?_
    refine r_get C hW (K := RX6) (T := TX6) (N := 12) (v := .ref (A (b + 4))) 0 0 5 rfl rfl rfl inX6_letter_X6 (by decide) (List.mem_of_getElem? (i := 3) rfl) rfl rfl dX6_letter_12 ?_
    refine lv_aload_n hx hb dX6_letter_15 rfl (lv_at hl 0 rfl) ?_
    refine r_get C hW (K := RX6) (T := TX6) (N := 12) (v := .int x.2.2.2.2.2.2.2.2.2.2.1) 0 0 10 rfl rfl rfl inX6_letter_X6 (by decide) (List.mem_of_getElem? (i := 1) rfl) rfl rfl dX6_letter_16 ?_
    obtain ⟨g2, h⟩ := q_g h
    refine r_cald C hW 4 0 rfl rfl g2 dX6_letter_19 ?_
    refine lv_goto (tgt := 25) hx hb dX6_letter_20 (by decide) ?_
    cases h
    exact E _ _ _ _ _ hW rfl rfl dX6_letter_25
def f_X6_wants_j23 (x : TX6s) (w23 : Int32) : Option (TX6s) :=
some (x.1, x.2.1, x.2.2.1, x.2.2.2.1, x.2.2.2.2.1, x.2.2.2.2.2.1, x.2.2.2.2.2.2.1, x.2.2.2.2.2.2.2.1, x.2.2.2.2.2.2.2.2.1, x.2.2.2.2.2.2.2.2.2.1, (x.2.2.2.2.2.2.2.2.2.2.1 + 1), w23)
def f_X6_wants (x : TX6s) (p1 : Int32) : Option (TX6s) :=
if x.2.2.2.2.2.2.2.2.2.2.2 = (-6) then (
if p1 = 0 then (
f_X6_wants_j23 x x.2.2.2.2.2.2.2.2.2.2.1)
else (
f_X6_wants_j23 x (-6)))
else (
some x)
theorem wo_X6_wants : wordsOk yX6_wants 1 := by decide +kernel
theorem inX6_wants_X6 : ∀ w ∈ wsX60, w ∈ wsX6_wants := fun _ h => List.mem_cons_of_mem _ (List.mem_append_right _ h)
set_option maxHeartbeats 4000000 in
set_option maxRecDepth 100000 in
theorem c_X6_wants (l : Launch) (g : GG) (A : Nat → Nat) (b : Nat) (x : TX6s) (p1 : Int32) (x' : TX6s) (h : f_X6_wants x p1 = some x') : CV l yX6_wants wsX6_wants 0 0 g [.ref (A b), .int p1] (wX6 g A b x) (wX6 g A b x') := by
  refine CV.mk (own := RX6) (by decide) rfl rfl (Nat.le_of_ble_eq_true rfl) ?_
  intro p e R s m args below meth c Z Q C E hR H hW ls hl
  have hx := C.1.1
  have hb := C.1.2.1
  have hown := C.1.2.2.2.1
  replace hW : WdG g Z s.heap H [] [[(A b, .inr (6, [.ref (A (b + 1)), .ref (A (b + 2)), .int x.2.2.1, .ref (A (b + 3)), .int x.2.2.2.2.1, .ref (A (b + 4)), .int x.2.2.2.2.2.2.1, .ref (A (b + 5)), .ref (A (b + 6)), .int x.2.2.2.2.2.2.2.2.2.1, .int x.2.2.2.2.2.2.2.2.2.2.1, .int x.2.2.2.2.2.2.2.2.2.2.2]))], [(A (b + 1), .inl (gI g, 268, .inl x.1))], [(A (b + 2), .inl (gI g, 1340, .inl x.2.1))], [(A (b + 3), .inl (gI g, 268, .inl x.2.2.2.1))], [(A (b + 4), .inl (gC g, 70, .inl x.2.2.2.2.2.1))], [(A (b + 5), .inl (gI g, 3, .inl x.2.2.2.2.2.2.2.1))], [(A (b + 6), .inl (gI g, 144, .inl x.2.2.2.2.2.2.2.2.1))]] := hW.re rfl
  replace hl : lv_has ls 2 [(0, .ref (A b)), (1, .int p1)] := hl
  unfold f_X6_wants at h
  refine lv_aload_n hx hb dX6_wants_0 rfl (lv_at hl 0 rfl) ?_
  refine r_get C hW (K := RX6) (T := TX6) (N := 12) (v := .int x.2.2.2.2.2.2.2.2.2.2.2) 0 0 11 rfl rfl rfl inX6_wants_X6 (by decide) (List.mem_of_getElem? (i := 1) rfl) rfl rfl dX6_wants_1 ?_
  refine lv_bipush (v := (-6)) hx hb dX6_wants_4 (by decide) ?_
  refine lv_icmp_ne (tgt := 36) hx hb dX6_wants_6 (by decide) (fun e1 => ?_) (fun e1 => ?_)
  · replace h := q_f e1 h
    cases h
    exact E _ _ _ _ _ hW rfl dX6_wants_36
  · replace h := q_t e1 h
    refine lv_aload_n hx hb dX6_wants_9 rfl (lv_at hl 0 rfl) ?_
    refine lv_iload_n hx hb dX6_wants_10 rfl (lv_at hl 1 rfl) ?_
    have J23 : ∀ (w23 : Int32), f_X6_wants_j23 x w23 = some x' → ∀ (H : Heap) (locs : List Loc), WdG g Z s.heap H locs [[(A b, .inr (6, [.ref (A (b + 1)), .ref (A (b + 2)), .int x.2.2.1, .ref (A (b + 3)), .int x.2.2.2.2.1, .ref (A (b + 4)), .int x.2.2.2.2.2.2.1, .ref (A (b + 5)), .ref (A (b + 6)), .int x.2.2.2.2.2.2.2.2.2.1, .int x.2.2.2.2.2.2.2.2.2.2.1, .int x.2.2.2.2.2.2.2.2.2.2.2]))], [(A (b + 1), .inl (gI g, 268, .inl x.1))], [(A (b + 2), .inl (gI g, 1340, .inl x.2.1))], [(A (b + 3), .inl (gI g, 268, .inl x.2.2.2.1))], [(A (b + 4), .inl (gC g, 70, .inl x.2.2.2.2.2.1))], [(A (b + 5), .inl (gI g, 3, .inl x.2.2.2.2.2.2.2.1))], [(A (b + 6), .inl (gI g, 144, .inl x.2.2.2.2.2.2.2.2.1))]] → ∀ ls : Array Slot, lv_has ls 2 [(0, .ref (A b))] → W p l e R s m args below meth c H locs 0 0 Q (F0 m 23 ls [.int w23, .ref (A b)]) := by
      intro w23 h H locs hW ls hl
      unfold f_X6_wants_j23 at h
      refine r_put C hW (bs' := [[(A b, .inr (6, [.ref (A (b + 1)), .ref (A (b + 2)), .int x.2.2.1, .ref (A (b + 3)), .int x.2.2.2.2.1, .ref (A (b + 4)), .int x.2.2.2.2.2.2.1, .ref (A (b + 5)), .ref (A (b + 6)), .int x.2.2.2.2.2.2.2.2.2.1, .int x.2.2.2.2.2.2.2.2.2.2.1, .int w23]))], [(A (b + 1), .inl (gI g, 268, .inl x.1))], [(A (b + 2), .inl (gI g, 1340, .inl x.2.1))], [(A (b + 3), .inl (gI g, 268, .inl x.2.2.2.1))], [(A (b + 4), .inl (gC g, 70, .inl x.2.2.2.2.2.1))], [(A (b + 5), .inl (gI g, 3, .inl x.2.2.2.2.2.2.2.1))], [(A (b + 6), .inl (gI g, 144, .inl x.2.2.2.2.2.2.2.2.1))]]) (K := RX6) (T := TX6) (N := 12) 0 0 11 rfl rfl rfl inX6_wants_X6 tyX6 tyX6_ok nmX6 (by decide) (List.mem_of_getElem? (i := 1) rfl) rfl rfl (tyX6_ok 11 (by decide)) rfl rfl (Nat.le_of_ble_eq_true rfl) dX6_wants_23 rfl (fun H locs hW => ?_)
      refine lv_aload_n hx hb dX6_wants_26 rfl (lv_at hl 0 rfl) ?_
      refine lv_dup hx hb dX6_wants_27 rfl ?_
      refine r_get C hW (K := RX6) (T := TX6) (N := 12) (v := .int x.2.2.2.2.2.2.2.2.2.2.1) 0 0 10 rfl rfl rfl inX6_wants_X6 (by decide) (List.mem_of_getElem? (i := 2) rfl) rfl rfl dX6_wants_28 ?_
      refine lv_iconst (v := 1) hx hb dX6_wants_31 (by decide) ?_
      refine lv_iadd hx hb dX6_wants_32 ?_
      refine r_put C hW (bs' := [[(A b, .inr (6, [.ref (A (b + 1)), .ref (A (b + 2)), .int x.2.2.1, .ref (A (b + 3)), .int x.2.2.2.2.1, .ref (A (b + 4)), .int x.2.2.2.2.2.2.1, .ref (A (b + 5)), .ref (A (b + 6)), .int x.2.2.2.2.2.2.2.2.2.1, .int (x.2.2.2.2.2.2.2.2.2.2.1 + 1), .int w23]))], [(A (b + 1), .inl (gI g, 268, .inl x.1))], [(A (b + 2), .inl (gI g, 1340, .inl x.2.1))], [(A (b + 3), .inl (gI g, 268, .inl x.2.2.2.1))], [(A (b + 4), .inl (gC g, 70, .inl x.2.2.2.2.2.1))], [(A (b + 5), .inl (gI g, 3, .inl x.2.2.2.2.2.2.2.1))], [(A (b + 6), .inl (gI g, 144, .inl x.2.2.2.2.2.2.2.2.1))]]) (K := RX6) (T := TX6) (N := 12) 0 0 10 rfl rfl rfl inX6_wants_X6 tyX6 tyX6_ok nmX6 (by decide) (List.mem_of_getElem? (i := 2) rfl) rfl rfl (tyX6_ok 10 (by decide)) rfl rfl (Nat.le_of_ble_eq_true rfl) dX6_wants_33 rfl (fun H locs hW => ?_)
      cases h
      exact E _ _ _ _ _ hW rfl dX6_wants_36
    refine lv_if_eq (tgt := 19) hx hb dX6_wants_11 (by decide) (fun e2 => ?_) (fun e2 => ?_)
    · replace h := q_t e2 h
      refine lv_aload_n hx hb dX6_wants_19 rfl (lv_at hl 0 rfl) ?_
      refine r_get C hW (K := RX6) (T := TX6) (N := 12) (v := .int x.2.2.2.2.2.2.2.2.2.2.1) 0 0 10 rfl rfl rfl inX6_wants_X6 (by decide) (List.mem_of_getElem? (i := 2) rfl) rfl rfl dX6_wants_20 ?_
      exact J23 x.2.2.2.2.2.2.2.2.2.2.1 h _ _ hW _ (lv_sub hl [0] rfl)
    · replace h := q_f e2 h
      refine lv_bipush (v := (-6)) hx hb dX6_wants_14 (by decide) ?_
      refine lv_goto (tgt := 23) hx hb dX6_wants_16 (by decide) ?_
      exact J23 (-6) h _ _ hW _ (lv_sub hl [0] rfl)
def f_X6_figure (x : TX6s) (p1 : Int32) : Option (Int32 × TX6s) :=
(f_X6_letter x).bind fun t1 =>
(f_X6_in (t1 - 48) 0 p1).bind fun t3 =>
(f_X6_wants x t3).bind fun t5 =>
some ((t1 - 48), t5)
theorem wo_X6_figure : wordsOk yX6_figure 1 := by decide +kernel
set_option maxHeartbeats 4000000 in
set_option maxRecDepth 100000 in
theorem c_X6_figure (l : Launch) (g : GG) (A : Nat → Nat) (b : Nat) (x : TX6s) (p1 : Int32) (r : Int32) (x' : TX6s) (h : f_X6_figure x p1 = some (r, x')) : CI l yX6_figure wsX6_figure 1 22 g [.ref (A b), .int p1] (wX6 g A b x) r (wX6 g A b x') := by
  refine CI.mk (own := RX6) (by decide) rfl rfl (Nat.le_of_ble_eq_true rfl) ?_
  intro p e R s m args below meth c Z Q C E hR H hW ls hl
  have hx := C.1.1
  have hb := C.1.2.1
  have hown := C.1.2.2.2.1
  replace hW : WdG g Z s.heap H [] [[(A b, .inr (6, [.ref (A (b + 1)), .ref (A (b + 2)), .int x.2.2.1, .ref (A (b + 3)), .int x.2.2.2.2.1, .ref (A (b + 4)), .int x.2.2.2.2.2.2.1, .ref (A (b + 5)), .ref (A (b + 6)), .int x.2.2.2.2.2.2.2.2.2.1, .int x.2.2.2.2.2.2.2.2.2.2.1, .int x.2.2.2.2.2.2.2.2.2.2.2]))], [(A (b + 1), .inl (gI g, 268, .inl x.1))], [(A (b + 2), .inl (gI g, 1340, .inl x.2.1))], [(A (b + 3), .inl (gI g, 268, .inl x.2.2.2.1))], [(A (b + 4), .inl (gC g, 70, .inl x.2.2.2.2.2.1))], [(A (b + 5), .inl (gI g, 3, .inl x.2.2.2.2.2.2.2.1))], [(A (b + 6), .inl (gI g, 144, .inl x.2.2.2.2.2.2.2.2.1))]] := hW.re rfl
  replace hl : lv_has ls 3 [(0, .ref (A b)), (1, .int p1)] := hl
  unfold f_X6_figure at h
  refine lv_aload_n hx hb dX6_figure_0 rfl (lv_at hl 0 rfl) ?_
  obtain ⟨t1, h2, h⟩ := q_b h
  refine r_cVi C hW (nA := 0) (As := []) (rest := []) (c_X6_letter l g A b x _ h2) gX6_figure_X6_letter rfl ⟨rfl, wo_X6_letter⟩ (rmk hR rfl rfl) rfl rfl rfl rfl hl.1 (Nat.le_of_ble_eq_true rfl) rz dX6_figure_1 (n := 7) (is := [0, 1, 2, 3, 4, 5, 6]) (rs := []) (bs' := [[(A b, .inr (6, [.ref (A (b + 1)), .ref (A (b + 2)), .int x.2.2.1, .ref (A (b + 3)), .int x.2.2.2.2.1, .ref (A (b + 4)), .int x.2.2.2.2.2.2.1, .ref (A (b + 5)), .ref (A (b + 6)), .int x.2.2.2.2.2.2.2.2.2.1, .int x.2.2.2.2.2.2.2.2.2.2.1, .int x.2.2.2.2.2.2.2.2.2.2.2]))], [(A (b + 1), .inl (gI g, 268, .inl x.1))], [(A (b + 2), .inl (gI g, 1340, .inl x.2.1))], [(A (b + 3), .inl (gI g, 268, .inl x.2.2.2.1))], [(A (b + 4), .inl (gC g, 70, .inl x.2.2.2.2.2.1))], [(A (b + 5), .inl (gI g, 3, .inl x.2.2.2.2.2.2.2.1))], [(A (b + 6), .inl (gI g, 144, .inl x.2.2.2.2.2.2.2.2.1))]]) rfl rfl pm_39 rfl rfl rfl (fun H locs hW => ?_)
  refine lv_bipush (v := 48) hx hb dX6_figure_4 (by decide) ?_
  refine lv_isub hx hb dX6_figure_6 ?_
  refine lv_istore_n (lv' := [(2, .int (t1 - 48)), (0, .ref (A b)), (1, .int p1)]) hx hb dX6_figure_7 rfl hl (by decide) rfl (fun ls hl => ?_)
  refine lv_aload_n hx hb dX6_figure_8 rfl (lv_at hl 1 rfl) ?_
  refine lv_iload_n hx hb dX6_figure_9 rfl (lv_at hl 0 rfl) ?_
  refine lv_iconst (v := 0) hx hb dX6_figure_10 (by decide) ?_
  refine lv_iload_n hx hb dX6_figure_11 rfl (lv_at hl 2 rfl) ?_
  obtain ⟨t3, h4, h⟩ := q_b h
  refine r_cSi C hW (nA := 3) (As := [.int (t1 - 48), .int 0, .int p1]) (rest := [.ref (A b)]) (c_X6_in l g (t1 - 48) 0 p1 _ h4) gX6_figure_X6_in rfl wo_X6_in (rmk hR rfl rfl) rfl rfl hl.1 (Nat.le_of_ble_eq_true rfl) rz dX6_figure_12 (n := 7) (is := []) (rs := [0, 1, 2, 3, 4, 5, 6]) (bs' := [[(A b, .inr (6, [.ref (A (b + 1)), .ref (A (b + 2)), .int x.2.2.1, .ref (A (b + 3)), .int x.2.2.2.2.1, .ref (A (b + 4)), .int x.2.2.2.2.2.2.1, .ref (A (b + 5)), .ref (A (b + 6)), .int x.2.2.2.2.2.2.2.2.2.1, .int x.2.2.2.2.2.2.2.2.2.2.1, .int x.2.2.2.2.2.2.2.2.2.2.2]))], [(A (b + 1), .inl (gI g, 268, .inl x.1))], [(A (b + 2), .inl (gI g, 1340, .inl x.2.1))], [(A (b + 3), .inl (gI g, 268, .inl x.2.2.2.1))], [(A (b + 4), .inl (gC g, 70, .inl x.2.2.2.2.2.1))], [(A (b + 5), .inl (gI g, 3, .inl x.2.2.2.2.2.2.2.1))], [(A (b + 6), .inl (gI g, 144, .inl x.2.2.2.2.2.2.2.2.1))]]) rfl rfl pm_38 rfl rfl rfl (fun H locs hW => ?_)
  obtain ⟨t5, h6, h⟩ := q_b h
  refine r_cVv C hW (nA := 1) (As := [.int t3]) (rest := []) (c_X6_wants l g A b x t3 _ h6) gX6_figure_X6_wants rfl ⟨rfl, wo_X6_wants⟩ (rmk hR rfl rfl) rfl rfl rfl rfl hl.1 (Nat.le_of_ble_eq_true rfl) rz dX6_figure_15 (n := 7) (is := [0, 1, 2, 3, 4, 5, 6]) (rs := []) (bs' := [[(A b, .inr (6, [.ref (A (b + 1)), .ref (A (b + 2)), .int t5.2.2.1, .ref (A (b + 3)), .int t5.2.2.2.2.1, .ref (A (b + 4)), .int t5.2.2.2.2.2.2.1, .ref (A (b + 5)), .ref (A (b + 6)), .int t5.2.2.2.2.2.2.2.2.2.1, .int t5.2.2.2.2.2.2.2.2.2.2.1, .int t5.2.2.2.2.2.2.2.2.2.2.2]))], [(A (b + 1), .inl (gI g, 268, .inl t5.1))], [(A (b + 2), .inl (gI g, 1340, .inl t5.2.1))], [(A (b + 3), .inl (gI g, 268, .inl t5.2.2.2.1))], [(A (b + 4), .inl (gC g, 70, .inl t5.2.2.2.2.2.1))], [(A (b + 5), .inl (gI g, 3, .inl t5.2.2.2.2.2.2.2.1))], [(A (b + 6), .inl (gI g, 144, .inl t5.2.2.2.2.2.2.2.2.1))]]) rfl rfl pm_39 rfl rfl rfl (fun H locs hW => ?_)
  refine lv_iload_n hx hb dX6_figure_18 rfl (lv_at hl 0 rfl) ?_
  cases h
  exact E _ _ _ _ _ hW rfl rfl dX6_figure_19
def f_X6_mile (x : TX6s) : Option (Int32 × TX6s) :=
(f_X6_letter x).bind fun t1 =>
(f_X6_in (t1 - 97) 0 15).bind fun t3 =>
(f_X6_wants x t3).bind fun t5 =>
some ((t1 - 97), t5)
theorem wo_X6_mile : wordsOk yX6_mile 0 := by decide +kernel
set_option maxHeartbeats 4000000 in
set_option maxRecDepth 100000 in
theorem c_X6_mile (l : Launch) (g : GG) (A : Nat → Nat) (b : Nat) (x : TX6s) (r : Int32) (x' : TX6s) (h : f_X6_mile x = some (r, x')) : CI l yX6_mile wsX6_mile 1 22 g [.ref (A b)] (wX6 g A b x) r (wX6 g A b x') := by
  refine CI.mk (own := RX6) (by decide) rfl rfl (Nat.le_of_ble_eq_true rfl) ?_
  intro p e R s m args below meth c Z Q C E hR H hW ls hl
  have hx := C.1.1
  have hb := C.1.2.1
  have hown := C.1.2.2.2.1
  replace hW : WdG g Z s.heap H [] [[(A b, .inr (6, [.ref (A (b + 1)), .ref (A (b + 2)), .int x.2.2.1, .ref (A (b + 3)), .int x.2.2.2.2.1, .ref (A (b + 4)), .int x.2.2.2.2.2.2.1, .ref (A (b + 5)), .ref (A (b + 6)), .int x.2.2.2.2.2.2.2.2.2.1, .int x.2.2.2.2.2.2.2.2.2.2.1, .int x.2.2.2.2.2.2.2.2.2.2.2]))], [(A (b + 1), .inl (gI g, 268, .inl x.1))], [(A (b + 2), .inl (gI g, 1340, .inl x.2.1))], [(A (b + 3), .inl (gI g, 268, .inl x.2.2.2.1))], [(A (b + 4), .inl (gC g, 70, .inl x.2.2.2.2.2.1))], [(A (b + 5), .inl (gI g, 3, .inl x.2.2.2.2.2.2.2.1))], [(A (b + 6), .inl (gI g, 144, .inl x.2.2.2.2.2.2.2.2.1))]] := hW.re rfl
  replace hl : lv_has ls 2 [(0, .ref (A b))] := hl
  unfold f_X6_mile at h
  refine lv_aload_n hx hb dX6_mile_0 rfl (lv_at hl 0 rfl) ?_
  obtain ⟨t1, h2, h⟩ := q_b h
  refine r_cVi C hW (nA := 0) (As := []) (rest := []) (c_X6_letter l g A b x _ h2) gX6_mile_X6_letter rfl ⟨rfl, wo_X6_letter⟩ (rmk hR rfl rfl) rfl rfl rfl rfl hl.1 (Nat.le_of_ble_eq_true rfl) rz dX6_mile_1 (n := 7) (is := [0, 1, 2, 3, 4, 5, 6]) (rs := []) (bs' := [[(A b, .inr (6, [.ref (A (b + 1)), .ref (A (b + 2)), .int x.2.2.1, .ref (A (b + 3)), .int x.2.2.2.2.1, .ref (A (b + 4)), .int x.2.2.2.2.2.2.1, .ref (A (b + 5)), .ref (A (b + 6)), .int x.2.2.2.2.2.2.2.2.2.1, .int x.2.2.2.2.2.2.2.2.2.2.1, .int x.2.2.2.2.2.2.2.2.2.2.2]))], [(A (b + 1), .inl (gI g, 268, .inl x.1))], [(A (b + 2), .inl (gI g, 1340, .inl x.2.1))], [(A (b + 3), .inl (gI g, 268, .inl x.2.2.2.1))], [(A (b + 4), .inl (gC g, 70, .inl x.2.2.2.2.2.1))], [(A (b + 5), .inl (gI g, 3, .inl x.2.2.2.2.2.2.2.1))], [(A (b + 6), .inl (gI g, 144, .inl x.2.2.2.2.2.2.2.2.1))]]) rfl rfl pm_39 rfl rfl rfl (fun H locs hW => ?_)
  refine lv_bipush (v := 97) hx hb dX6_mile_4 (by decide) ?_
  refine lv_isub hx hb dX6_mile_6 ?_
  refine lv_istore_n (lv' := [(1, .int (t1 - 97)), (0, .ref (A b))]) hx hb dX6_mile_7 rfl hl (by decide) rfl (fun ls hl => ?_)
  refine lv_aload_n hx hb dX6_mile_8 rfl (lv_at hl 1 rfl) ?_
  refine lv_iload_n hx hb dX6_mile_9 rfl (lv_at hl 0 rfl) ?_
  refine lv_iconst (v := 0) hx hb dX6_mile_10 (by decide) ?_
  refine lv_bipush (v := 15) hx hb dX6_mile_11 (by decide) ?_
  obtain ⟨t3, h4, h⟩ := q_b h
  refine r_cSi C hW (nA := 3) (As := [.int (t1 - 97), .int 0, .int 15]) (rest := [.ref (A b)]) (c_X6_in l g (t1 - 97) 0 15 _ h4) gX6_mile_X6_in rfl wo_X6_in (rmk hR rfl rfl) rfl rfl hl.1 (Nat.le_of_ble_eq_true rfl) rz dX6_mile_13 (n := 7) (is := []) (rs := [0, 1, 2, 3, 4, 5, 6]) (bs' := [[(A b, .inr (6, [.ref (A (b + 1)), .ref (A (b + 2)), .int x.2.2.1, .ref (A (b + 3)), .int x.2.2.2.2.1, .ref (A (b + 4)), .int x.2.2.2.2.2.2.1, .ref (A (b + 5)), .ref (A (b + 6)), .int x.2.2.2.2.2.2.2.2.2.1, .int x.2.2.2.2.2.2.2.2.2.2.1, .int x.2.2.2.2.2.2.2.2.2.2.2]))], [(A (b + 1), .inl (gI g, 268, .inl x.1))], [(A (b + 2), .inl (gI g, 1340, .inl x.2.1))], [(A (b + 3), .inl (gI g, 268, .inl x.2.2.2.1))], [(A (b + 4), .inl (gC g, 70, .inl x.2.2.2.2.2.1))], [(A (b + 5), .inl (gI g, 3, .inl x.2.2.2.2.2.2.2.1))], [(A (b + 6), .inl (gI g, 144, .inl x.2.2.2.2.2.2.2.2.1))]]) rfl rfl pm_38 rfl rfl rfl (fun H locs hW => ?_)
  obtain ⟨t5, h6, h⟩ := q_b h
  refine r_cVv C hW (nA := 1) (As := [.int t3]) (rest := []) (c_X6_wants l g A b x t3 _ h6) gX6_mile_X6_wants rfl ⟨rfl, wo_X6_wants⟩ (rmk hR rfl rfl) rfl rfl rfl rfl hl.1 (Nat.le_of_ble_eq_true rfl) rz dX6_mile_16 (n := 7) (is := [0, 1, 2, 3, 4, 5, 6]) (rs := []) (bs' := [[(A b, .inr (6, [.ref (A (b + 1)), .ref (A (b + 2)), .int t5.2.2.1, .ref (A (b + 3)), .int t5.2.2.2.2.1, .ref (A (b + 4)), .int t5.2.2.2.2.2.2.1, .ref (A (b + 5)), .ref (A (b + 6)), .int t5.2.2.2.2.2.2.2.2.2.1, .int t5.2.2.2.2.2.2.2.2.2.2.1, .int t5.2.2.2.2.2.2.2.2.2.2.2]))], [(A (b + 1), .inl (gI g, 268, .inl t5.1))], [(A (b + 2), .inl (gI g, 1340, .inl t5.2.1))], [(A (b + 3), .inl (gI g, 268, .inl t5.2.2.2.1))], [(A (b + 4), .inl (gC g, 70, .inl t5.2.2.2.2.2.1))], [(A (b + 5), .inl (gI g, 3, .inl t5.2.2.2.2.2.2.2.1))], [(A (b + 6), .inl (gI g, 144, .inl t5.2.2.2.2.2.2.2.2.1))]]) rfl rfl pm_39 rfl rfl rfl (fun H locs hW => ?_)
  refine lv_iload_n hx hb dX6_mile_19 rfl (lv_at hl 0 rfl) ?_
  cases h
  exact E _ _ _ _ _ hW rfl rfl dX6_mile_20
def f_X6_way_j29 (x : TX6s) (t1 : Int32) (w29 : Int32) : Option (Int32 × TX6s) :=
(f_X6_wants x w29).bind fun t3 =>
if t1 = 117 then (
some (0, t3))
else (
if t1 = 100 then (
some (1, t3))
else (
some (2, t3)))
def f_X6_way_j24 (x : TX6s) (t1 : Int32) (w24 : Unit) : Option (Int32 × TX6s) :=
f_X6_way_j29 x t1 1
def f_X6_way (x : TX6s) : Option (Int32 × TX6s) :=
(f_X6_letter x).bind fun t1 =>
if t1 = 117 then (
f_X6_way_j24 x t1 ())
else (
if t1 = 100 then (
f_X6_way_j24 x t1 ())
else (
if t1 = 98 then (
f_X6_way_j24 x t1 ())
else (
f_X6_way_j29 x t1 0)))
theorem wo_X6_way : wordsOk yX6_way 0 := by decide +kernel
set_option maxHeartbeats 4000000 in
set_option maxRecDepth 100000 in
theorem c_X6_way (l : Launch) (g : GG) (A : Nat → Nat) (b : Nat) (x : TX6s) (r : Int32) (x' : TX6s) (h : f_X6_way x = some (r, x')) : CI l yX6_way wsX6_way 1 21 g [.ref (A b)] (wX6 g A b x) r (wX6 g A b x') := by
  refine CI.mk (own := RX6) (by decide) rfl rfl (Nat.le_of_ble_eq_true rfl) ?_
  intro p e R s m args below meth c Z Q C E hR H hW ls hl
  have hx := C.1.1
  have hb := C.1.2.1
  have hown := C.1.2.2.2.1
  replace hW : WdG g Z s.heap H [] [[(A b, .inr (6, [.ref (A (b + 1)), .ref (A (b + 2)), .int x.2.2.1, .ref (A (b + 3)), .int x.2.2.2.2.1, .ref (A (b + 4)), .int x.2.2.2.2.2.2.1, .ref (A (b + 5)), .ref (A (b + 6)), .int x.2.2.2.2.2.2.2.2.2.1, .int x.2.2.2.2.2.2.2.2.2.2.1, .int x.2.2.2.2.2.2.2.2.2.2.2]))], [(A (b + 1), .inl (gI g, 268, .inl x.1))], [(A (b + 2), .inl (gI g, 1340, .inl x.2.1))], [(A (b + 3), .inl (gI g, 268, .inl x.2.2.2.1))], [(A (b + 4), .inl (gC g, 70, .inl x.2.2.2.2.2.1))], [(A (b + 5), .inl (gI g, 3, .inl x.2.2.2.2.2.2.2.1))], [(A (b + 6), .inl (gI g, 144, .inl x.2.2.2.2.2.2.2.2.1))]] := hW.re rfl
  replace hl : lv_has ls 2 [(0, .ref (A b))] := hl
  unfold f_X6_way at h
  refine lv_aload_n hx hb dX6_way_0 rfl (lv_at hl 0 rfl) ?_
  obtain ⟨t1, h2, h⟩ := q_b h
  refine r_cVi C hW (nA := 0) (As := []) (rest := []) (c_X6_letter l g A b x _ h2) gX6_way_X6_letter rfl ⟨rfl, wo_X6_letter⟩ (rmk hR rfl rfl) rfl rfl rfl rfl hl.1 (Nat.le_of_ble_eq_true rfl) rz dX6_way_1 (n := 7) (is := [0, 1, 2, 3, 4, 5, 6]) (rs := []) (bs' := [[(A b, .inr (6, [.ref (A (b + 1)), .ref (A (b + 2)), .int x.2.2.1, .ref (A (b + 3)), .int x.2.2.2.2.1, .ref (A (b + 4)), .int x.2.2.2.2.2.2.1, .ref (A (b + 5)), .ref (A (b + 6)), .int x.2.2.2.2.2.2.2.2.2.1, .int x.2.2.2.2.2.2.2.2.2.2.1, .int x.2.2.2.2.2.2.2.2.2.2.2]))], [(A (b + 1), .inl (gI g, 268, .inl x.1))], [(A (b + 2), .inl (gI g, 1340, .inl x.2.1))], [(A (b + 3), .inl (gI g, 268, .inl x.2.2.2.1))], [(A (b + 4), .inl (gC g, 70, .inl x.2.2.2.2.2.1))], [(A (b + 5), .inl (gI g, 3, .inl x.2.2.2.2.2.2.2.1))], [(A (b + 6), .inl (gI g, 144, .inl x.2.2.2.2.2.2.2.2.1))]]) rfl rfl pm_39 rfl rfl rfl (fun H locs hW => ?_)
  refine lv_istore_n (lv' := [(1, .int t1), (0, .ref (A b))]) hx hb dX6_way_4 rfl hl (by decide) rfl (fun ls hl => ?_)
  refine lv_aload_n hx hb dX6_way_5 rfl (lv_at hl 1 rfl) ?_
  refine lv_iload_n hx hb dX6_way_6 rfl (lv_at hl 0 rfl) ?_
  refine lv_bipush (v := 117) hx hb dX6_way_7 (by decide) ?_
  have J29 : ∀ (w29 : Int32), f_X6_way_j29 x t1 w29 = some (r, x') → ∀ (H : Heap) (locs : List Loc), WdG g Z s.heap H locs [[(A b, .inr (6, [.ref (A (b + 1)), .ref (A (b + 2)), .int x.2.2.1, .ref (A (b + 3)), .int x.2.2.2.2.1, .ref (A (b + 4)), .int x.2.2.2.2.2.2.1, .ref (A (b + 5)), .ref (A (b + 6)), .int x.2.2.2.2.2.2.2.2.2.1, .int x.2.2.2.2.2.2.2.2.2.2.1, .int x.2.2.2.2.2.2.2.2.2.2.2]))], [(A (b + 1), .inl (gI g, 268, .inl x.1))], [(A (b + 2), .inl (gI g, 1340, .inl x.2.1))], [(A (b + 3), .inl (gI g, 268, .inl x.2.2.2.1))], [(A (b + 4), .inl (gC g, 70, .inl x.2.2.2.2.2.1))], [(A (b + 5), .inl (gI g, 3, .inl x.2.2.2.2.2.2.2.1))], [(A (b + 6), .inl (gI g, 144, .inl x.2.2.2.2.2.2.2.2.1))]] → ∀ ls : Array Slot, lv_has ls 2 [(1, .int t1)] → W p l e R s m args below meth c H locs 0 0 Q (F0 m 29 ls [.int w29, .ref (A b)]) := by
    intro w29 h H locs hW ls hl
    unfold f_X6_way_j29 at h
    obtain ⟨t3, h4, h⟩ := q_b h
    refine r_cVv C hW (nA := 1) (As := [.int w29]) (rest := []) (c_X6_wants l g A b x w29 _ h4) gX6_way_X6_wants rfl ⟨rfl, wo_X6_wants⟩ (rmk hR rfl rfl) rfl rfl rfl rfl hl.1 (Nat.le_of_ble_eq_true rfl) rz dX6_way_29 (n := 7) (is := [0, 1, 2, 3, 4, 5, 6]) (rs := []) (bs' := [[(A b, .inr (6, [.ref (A (b + 1)), .ref (A (b + 2)), .int t3.2.2.1, .ref (A (b + 3)), .int t3.2.2.2.2.1, .ref (A (b + 4)), .int t3.2.2.2.2.2.2.1, .ref (A (b + 5)), .ref (A (b + 6)), .int t3.2.2.2.2.2.2.2.2.2.1, .int t3.2.2.2.2.2.2.2.2.2.2.1, .int t3.2.2.2.2.2.2.2.2.2.2.2]))], [(A (b + 1), .inl (gI g, 268, .inl t3.1))], [(A (b + 2), .inl (gI g, 1340, .inl t3.2.1))], [(A (b + 3), .inl (gI g, 268, .inl t3.2.2.2.1))], [(A (b + 4), .inl (gC g, 70, .inl t3.2.2.2.2.2.1))], [(A (b + 5), .inl (gI g, 3, .inl t3.2.2.2.2.2.2.2.1))], [(A (b + 6), .inl (gI g, 144, .inl t3.2.2.2.2.2.2.2.2.1))]]) rfl rfl pm_39 rfl rfl rfl (fun H locs hW => ?_)
    refine lv_iload_n hx hb dX6_way_32 rfl (lv_at hl 0 rfl) ?_
    refine lv_bipush (v := 117) hx hb dX6_way_33 (by decide) ?_
    refine lv_icmp_ne (tgt := 42) hx hb dX6_way_35 (by decide) (fun e5 => ?_) (fun e5 => ?_)
    · replace h := q_f e5 h
      refine lv_iload_n hx hb dX6_way_42 rfl (lv_at hl 0 rfl) ?_
      refine lv_bipush (v := 100) hx hb dX6_way_43 (by decide) ?_
      refine lv_icmp_ne (tgt := 52) hx hb dX6_way_45 (by decide) (fun e6 => ?_) (fun e6 => ?_)
      · replace h := q_f e6 h
        refine lv_iconst (v := 2) hx hb dX6_way_52 (by decide) ?_
        cases h
        exact E _ _ _ _ _ hW rfl rfl dX6_way_53
      · replace h := q_t e6 h
        refine lv_iconst (v := 1) hx hb dX6_way_48 (by decide) ?_
        refine lv_goto (tgt := 53) hx hb dX6_way_49 (by decide) ?_
        cases h
        exact E _ _ _ _ _ hW rfl rfl dX6_way_53
    · replace h := q_t e5 h
      refine lv_iconst (v := 0) hx hb dX6_way_38 (by decide) ?_
      refine lv_goto (tgt := 53) hx hb dX6_way_39 (by decide) ?_
      cases h
      exact E _ _ _ _ _ hW rfl rfl dX6_way_53
  have J24 : ∀ (w24 : Unit), f_X6_way_j24 x t1 w24 = some (r, x') → ∀ (H : Heap) (locs : List Loc), WdG g Z s.heap H locs [[(A b, .inr (6, [.ref (A (b + 1)), .ref (A (b + 2)), .int x.2.2.1, .ref (A (b + 3)), .int x.2.2.2.2.1, .ref (A (b + 4)), .int x.2.2.2.2.2.2.1, .ref (A (b + 5)), .ref (A (b + 6)), .int x.2.2.2.2.2.2.2.2.2.1, .int x.2.2.2.2.2.2.2.2.2.2.1, .int x.2.2.2.2.2.2.2.2.2.2.2]))], [(A (b + 1), .inl (gI g, 268, .inl x.1))], [(A (b + 2), .inl (gI g, 1340, .inl x.2.1))], [(A (b + 3), .inl (gI g, 268, .inl x.2.2.2.1))], [(A (b + 4), .inl (gC g, 70, .inl x.2.2.2.2.2.1))], [(A (b + 5), .inl (gI g, 3, .inl x.2.2.2.2.2.2.2.1))], [(A (b + 6), .inl (gI g, 144, .inl x.2.2.2.2.2.2.2.2.1))]] → ∀ ls : Array Slot, lv_has ls 2 [(1, .int t1)] → W p l e R s m args below meth c H locs 0 0 Q (F0 m 24 ls [.ref (A b)]) := by
    intro w24 h H locs hW ls hl
    unfold f_X6_way_j24 at h
    refine lv_iconst (v := 1) hx hb dX6_way_24 (by decide) ?_
    refine lv_goto (tgt := 29) hx hb dX6_way_25 (by decide) ?_
    exact J29 1 h _ _ hW _ (lv_sub hl [0] rfl)
  refine lv_icmp_eq (tgt := 24) hx hb dX6_way_9 (by decide) (fun e7 => ?_) (fun e7 => ?_)
  · replace h := q_t e7 h
    exact J24 () h _ _ hW _ (lv_sub hl [0] rfl)
  · replace h := q_f e7 h
    refine lv_iload_n hx hb dX6_way_12 rfl (lv_at hl 0 rfl) ?_
    refine lv_bipush (v := 100) hx hb dX6_way_13 (by decide) ?_
    refine lv_icmp_eq (tgt := 24) hx hb dX6_way_15 (by decide) (fun e8 => ?_) (fun e8 => ?_)
    · replace h := q_t e8 h
      exact J24 () h _ _ hW _ (lv_sub hl [0] rfl)
    · replace h := q_f e8 h
      refine lv_iload_n hx hb dX6_way_18 rfl (lv_at hl 0 rfl) ?_
      refine lv_bipush (v := 98) hx hb dX6_way_19 (by decide) ?_
      refine lv_icmp_ne (tgt := 28) hx hb dX6_way_21 (by decide) (fun e9 => ?_) (fun e9 => ?_)
      · replace h := q_f e9 h
        refine lv_iconst (v := 0) hx hb dX6_way_28 (by decide) ?_
        exact J29 0 h _ _ hW _ (lv_sub hl [0] rfl)
      · replace h := q_t e9 h
        exact J24 () h _ _ hW _ (lv_sub hl [0] rfl)
