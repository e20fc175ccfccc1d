def f_X2_add (x : TX2s) (p1 : Int32) : Option (Int32 × TX2s) :=
if 70 ≤ x.2 then (
some (x.2, x))
else (
if x.2 < 0 ∨ 70 ≤ (x.2).toNatClampNeg then none else
some ((x.2 + 1), ((upd x.1 (x.2).toNatClampNeg (vp_nar .char (((p1).toUInt32 % 65536).toInt32))), (x.2 + 1))))
theorem wo_X2_add : wordsOk yX2_add 1 := by decide +kernel
theorem inX2_add_X2 : ∀ w ∈ wsX20, w ∈ wsX2_add := fun _ h => List.mem_cons_of_mem _ (List.mem_append_right _ h)
set_option maxHeartbeats 4000000 in
set_option maxRecDepth 100000 in
theorem c_X2_add (l : Launch) (g : GG) (A : Nat → Nat) (b : Nat) (x : TX2s) (p1 : Int32) (r : Int32) (x' : TX2s) (h : f_X2_add x p1 = some (r, x')) : CI l yX2_add wsX2_add 0 0 g [.ref (A b), .int p1] (wX2 g A b x) r (wX2 g A b x') := by
  refine CI.mk (own := RX2) (by decide) rfl rfl (Nat.le_of_ble_eq_true rfl) ?_
  intro p e R s m args below meth c Z Q C E hR H hW ls hl
  have hx := C.1.1
  have hb := C.1.2.1
  have hown := C.1.2.2.2.1
  replace hW : WdG g Z s.heap H [] [[(A b, .inr (2, [.ref (A (b + 1)), .int x.2]))], [(A (b + 1), .inl (gC g, 70, .inl x.1))]] := hW.re rfl
  replace hl : lv_has ls 2 [(0, .ref (A b)), (1, .int p1)] := hl
  unfold f_X2_add at h
  refine lv_aload_n hx hb dX2_add_0 rfl (lv_at hl 0 rfl) ?_
  refine r_get C hW (K := RX2) (T := TX2) (N := 2) (v := .int x.2) 0 0 1 rfl rfl rfl inX2_add_X2 (by decide) (List.mem_of_getElem? (i := 1) rfl) rfl rfl dX2_add_1 ?_
  refine lv_bipush (v := 70) hx hb dX2_add_4 (by decide) ?_
  refine lv_icmp_ge (tgt := 30) hx hb dX2_add_6 (by decide) (fun e1 => ?_) (fun e1 => ?_)
  · replace h := q_t e1 h
    refine lv_aload_n hx hb dX2_add_30 rfl (lv_at hl 0 rfl) ?_
    refine r_get C hW (K := RX2) (T := TX2) (N := 2) (v := .int x.2) 0 0 1 rfl rfl rfl inX2_add_X2 (by decide) (List.mem_of_getElem? (i := 1) rfl) rfl rfl dX2_add_31 ?_
    cases h
    exact E _ _ _ _ _ hW rfl rfl dX2_add_34
  · replace h := q_f e1 h
    refine lv_aload_n hx hb dX2_add_9 rfl (lv_at hl 0 rfl) ?_
    refine r_get C hW (K := RX2) (T := TX2) (N := 2) (v := .ref (A (b + 1))) 0 0 0 rfl rfl rfl inX2_add_X2 (by decide) (List.mem_of_getElem? (i := 2) rfl) rfl rfl dX2_add_10 ?_
    refine lv_aload_n hx hb dX2_add_13 rfl (lv_at hl 0 rfl) ?_
    refine r_get C hW (K := RX2) (T := TX2) (N := 2) (v := .int x.2) 0 0 1 rfl rfl rfl inX2_add_X2 (by decide) (List.mem_of_getElem? (i := 1) rfl) rfl rfl dX2_add_14 ?_
    refine lv_iload_n hx hb dX2_add_17 rfl (lv_at hl 1 rfl) ?_
    refine lv_i2c (v := ((p1).toUInt32 % 65536).toInt32) hx hb dX2_add_18 rfl ?_
    obtain ⟨g2, h⟩ := q_g h
    refine r_cast C hW (bs' := [[(A b, .inr (2, [.ref (A (b + 1)), .int x.2]))], [(A (b + 1), .inl (gC g, 70, .inl (upd x.1 (x.2).toNatClampNeg (vp_nar .char (((p1).toUInt32 % 65536).toInt32)))))]]) 1 0 rfl rfl g2 dX2_add_19 rfl (fun H locs hW => ?_)
    refine lv_aload_n hx hb dX2_add_20 rfl (lv_at hl 0 rfl) ?_
    refine lv_dup hx hb dX2_add_21 rfl ?_
    refine r_get C hW (K := RX2) (T := TX2) (N := 2) (v := .int x.2) 0 0 1 rfl rfl rfl inX2_add_X2 (by decide) (List.mem_of_getElem? (i := 1) rfl) rfl rfl dX2_add_22 ?_
    refine lv_iconst (v := 1) hx hb dX2_add_25 (by decide) ?_
    refine lv_iadd hx hb dX2_add_26 ?_
    refine r_put C hW (bs' := [[(A b, .inr (2, [.ref (A (b + 1)), .int (x.2 + 1)]))], [(A (b + 1), .inl (gC g, 70, .inl (upd x.1 (x.2).toNatClampNeg (vp_nar .char (((p1).toUInt32 % 65536).toInt32)))))]]) (K := RX2) (T := TX2) (N := 2) 0 0 1 rfl rfl rfl inX2_add_X2 tyX2 tyX2_ok nmX2 (by decide) (List.mem_of_getElem? (i := 1) rfl) rfl rfl (tyX2_ok 1 (by decide)) rfl rfl (Nat.le_of_ble_eq_true rfl) dX2_add_27 rfl (fun H locs hW => ?_)
    refine lv_aload_n hx hb dX2_add_30 rfl (lv_at hl 0 rfl) ?_
    refine r_get C hW (K := RX2) (T := TX2) (N := 2) (v := .int (x.2 + 1)) 0 0 1 rfl rfl rfl inX2_add_X2 (by decide) (List.mem_of_getElem? (i := 1) rfl) rfl rfl dX2_add_31 ?_
    cases h
    exact E _ _ _ _ _ hW rfl rfl dX2_add_34
def f_X2_empty (x : TX2s) : Option (Int32 × TX2s) :=
some (x.2, (x.1, 0))
theorem wo_X2_empty : wordsOk yX2_empty 0 := by decide +kernel
theorem inX2_empty_X2 : ∀ w ∈ wsX20, w ∈ wsX2_empty := fun _ h => List.mem_cons_of_mem _ (List.mem_append_right _ h)
set_option maxHeartbeats 4000000 in
set_option maxRecDepth 100000 in
theorem c_X2_empty (l : Launch) (g : GG) (A : Nat → Nat) (b : Nat) (x : TX2s) (r : Int32) (x' : TX2s) (h : f_X2_empty x = some (r, x')) : CI l yX2_empty wsX2_empty 0 0 g [.ref (A b)] (wX2 g A b x) r (wX2 g A b x') := by
  refine CI.mk (own := RX2) (by decide) rfl rfl (Nat.le_of_ble_eq_true rfl) ?_
  intro p e R s m args below meth c Z Q C E hR H hW ls hl
  have hx := C.1.1
  have hb := C.1.2.1
  have hown := C.1.2.2.2.1
  replace hW : WdG g Z s.heap H [] [[(A b, .inr (2, [.ref (A (b + 1)), .int x.2]))], [(A (b + 1), .inl (gC g, 70, .inl x.1))]] := hW.re rfl
  replace hl : lv_has ls 2 [(0, .ref (A b))] := hl
  unfold f_X2_empty at h
  refine lv_aload_n hx hb dX2_empty_0 rfl (lv_at hl 0 rfl) ?_
  refine r_get C hW (K := RX2) (T := TX2) (N := 2) (v := .int x.2) 0 0 1 rfl rfl rfl inX2_empty_X2 (by decide) (List.mem_of_getElem? (i := 1) rfl) rfl rfl dX2_empty_1 ?_
  refine lv_istore_n (lv' := [(1, .int x.2), (0, .ref (A b))]) hx hb dX2_empty_4 rfl hl (by decide) rfl (fun ls hl => ?_)
  refine lv_aload_n hx hb dX2_empty_5 rfl (lv_at hl 1 rfl) ?_
  refine lv_iconst (v := 0) hx hb dX2_empty_6 (by decide) ?_
  refine r_put C hW (bs' := [[(A b, .inr (2, [.ref (A (b + 1)), .int 0]))], [(A (b + 1), .inl (gC g, 70, .inl x.1))]]) (K := RX2) (T := TX2) (N := 2) 0 0 1 rfl rfl rfl inX2_empty_X2 tyX2 tyX2_ok nmX2 (by decide) (List.mem_of_getElem? (i := 1) rfl) rfl rfl (tyX2_ok 1 (by decide)) rfl rfl (Nat.le_of_ble_eq_true rfl) dX2_empty_7 rfl (fun H locs hW => ?_)
  refine lv_iload_n hx hb dX2_empty_10 rfl (lv_at hl 0 rfl) ?_
  cases h
  exact E _ _ _ _ _ hW rfl rfl dX2_empty_11
def f_X2_codeAt (x : TX2s) (p1 : Int32) : Option (Int32) :=
(f_X5_isWithin p1 0 (x.2 - 1)).bind fun t1 =>
if t1 = 0 then (
some 0)
else (
if p1 < 0 ∨ 70 ≤ (p1).toNatClampNeg then none else
some (x.1 (p1).toNatClampNeg))
theorem wo_X2_codeAt : wordsOk yX2_codeAt 1 := by decide +kernel
theorem inX2_codeAt_X2 : ∀ w ∈ wsX20, w ∈ wsX2_codeAt := fun _ h => List.mem_cons_of_mem _ (List.mem_append_right _ h)
set_option maxHeartbeats 4000000 in
set_option maxRecDepth 100000 in
theorem c_X2_codeAt (l : Launch) (g : GG) (A : Nat → Nat) (b : Nat) (x : TX2s) (p1 : Int32) (r : Int32) (h : f_X2_codeAt x p1 = some r) : CI l yX2_codeAt wsX2_codeAt 1 22 g [.ref (A b), .int p1] (wX2 g A b x) r (wX2 g A b x) := by
  refine CI.mk (own := RX2) (by decide) rfl rfl (Nat.le_of_ble_eq_true rfl) ?_
  intro p e R s m args below meth c Z Q C E hR H hW ls hl
  have hx := C.1.1
  have hb := C.1.2.1
  have hown := C.1.2.2.2.1
  replace hW : WdG g Z s.heap H [] [[(A b, .inr (2, [.ref (A (b + 1)), .int x.2]))], [(A (b + 1), .inl (gC g, 70, .inl x.1))]] := hW.re rfl
  replace hl : lv_has ls 2 [(0, .ref (A b)), (1, .int p1)] := hl
  unfold f_X2_codeAt at h
  refine lv_iload_n hx hb dX2_codeAt_0 rfl (lv_at hl 1 rfl) ?_
  refine lv_iconst (v := 0) hx hb dX2_codeAt_1 (by decide) ?_
  refine lv_aload_n hx hb dX2_codeAt_2 rfl (lv_at hl 0 rfl) ?_
  refine r_get C hW (K := RX2) (T := TX2) (N := 2) (v := .int x.2) 0 0 1 rfl rfl rfl inX2_codeAt_X2 (by decide) (List.mem_of_getElem? (i := 1) rfl) rfl rfl dX2_codeAt_3 ?_
  refine lv_iconst (v := 1) hx hb dX2_codeAt_6 (by decide) ?_
  refine lv_isub hx hb dX2_codeAt_7 ?_
  obtain ⟨t1, h2, h⟩ := q_b h
  refine r_cNi C hW (nA := 3) (As := [.int p1, .int 0, .int (x.2 - 1)]) (rest := []) (c_X5_isWithin l g p1 0 (x.2 - 1) _ h2) gX2_codeAt_X5_isWithin_n19 rfl (List.mem_of_getElem? (i := 12) rfl) (List.mem_of_getElem? (i := 4) rfl) (List.mem_of_getElem? (i := 3) rfl) wo_X5_isWithin (rmk hR rfl rfl) rfl rfl hl.1 (Nat.le_of_ble_eq_true rfl) rz dX2_codeAt_8 (n := 2) (is := []) (rs := [0, 1]) (bs' := [[(A b, .inr (2, [.ref (A (b + 1)), .int x.2]))], [(A (b + 1), .inl (gC g, 70, .inl x.1))]]) rfl rfl pm_10 rfl rfl rfl (fun H locs hW => ?_)
  refine lv_if_eq (tgt := 23) hx hb dX2_codeAt_11 (by decide) (fun e3 => ?_) (fun e3 => ?_)
  · replace h := q_t e3 h
    refine lv_iconst (v := 0) hx hb dX2_codeAt_23 (by decide) ?_
    cases h
    exact E _ _ _ _ _ hW rfl rfl dX2_codeAt_24
  · replace h := q_f e3 h
    refine lv_aload_n hx hb dX2_codeAt_14 rfl (lv_at hl 0 rfl) ?_
    refine r_get C hW (K := RX2) (T := TX2) (N := 2) (v := .ref (A (b + 1))) 0 0 0 rfl rfl rfl inX2_codeAt_X2 (by decide) (List.mem_of_getElem? (i := 2) rfl) rfl rfl dX2_codeAt_15 ?_
    refine lv_iload_n hx hb dX2_codeAt_18 rfl (lv_at hl 1 rfl) ?_
    obtain ⟨g4, h⟩ := q_g h
    refine r_cald C hW 1 0 rfl rfl g4 dX2_codeAt_19 ?_
    refine lv_goto (tgt := 24) hx hb dX2_codeAt_20 (by decide) ?_
    cases h
    exact E _ _ _ _ _ hW rfl rfl dX2_codeAt_24
def f_X2_formOf (p1 : Int32) : Option (Nat) :=
if p1 = 97 then (
some 1)
else if p1 = 100 then (
some 5)
else if p1 = 108 then (
some 3)
else if p1 = 110 then (
some 4)
else if p1 = 119 then (
some 2)
else (
some 6)
theorem wo_X2_formOf : wordsOk yX2_formOf 1 := by decide +kernel
set_option maxHeartbeats 4000000 in
set_option maxRecDepth 100000 in
theorem c_X2_formOf (l : Launch) (g : GG) (p1 : Int32) (r : Nat) (h : f_X2_formOf p1 = some r) : CR l yX2_formOf wsX2_formOf 0 0 g [.int p1] ([]) (gK g r) ([]) := by
  refine CR.mk (own := RX2) (by decide) rfl rfl (Nat.le_of_ble_eq_true rfl) ?_
  intro p e R s m args below meth c Z Q C E hR H hW ls hl
  have hx := C.1.1
  have hb := C.1.2.1
  have hown := C.1.2.2.2.1
  replace hW : WdG g Z s.heap H [] [] := hW.re rfl
  replace hl : lv_has ls 1 [(0, .int p1)] := hl
  unfold f_X2_formOf at h
  refine lv_iload_n hx hb dX2_formOf_0 rfl (lv_at hl 0 rfl) ?_
  by_cases e1 : p1 = 97
  · replace h := q_t e1 h
    refine lv_lookup (off := 51) (tgt := 52) hx hb dX2_formOf_1 (by decide) (sw_eq e1 rfl) (by decide) ?_
    refine va_ldcS (tx := "aLMY") hx hb hown (C.2.1.2.2.1 1 (by decide)) dX2_formOf_52 ?_
    cases h
    exact E _ _ _ _ _ hW rfl dX2_formOf_54
  · replace h := q_f e1 h
    by_cases e2 : p1 = 100
    · replace h := q_t e2 h
      refine lv_lookup (off := 63) (tgt := 64) hx hb dX2_formOf_1 (by decide) (sw_ne e1 rfl (sw_eq e2 rfl)) (by decide) ?_
      refine va_ldcS (tx := "d") hx hb hown (C.2.1.2.2.1 5 (by decide)) dX2_formOf_64 ?_
      cases h
      exact E _ _ _ _ _ hW rfl dX2_formOf_66
    · replace h := q_f e2 h
      by_cases e3 : p1 = 108
      · replace h := q_t e3 h
        refine lv_lookup (off := 57) (tgt := 58) hx hb dX2_formOf_1 (by decide) (sw_ne e1 rfl (sw_ne e2 rfl (sw_eq e3 rfl))) (by decide) ?_
        refine va_ldcS (tx := "lNMD") hx hb hown (C.2.1.2.2.1 3 (by decide)) dX2_formOf_58 ?_
        cases h
        exact E _ _ _ _ _ hW rfl dX2_formOf_60
      · replace h := q_f e3 h
        by_cases e4 : p1 = 110
        · replace h := q_t e4 h
          refine lv_lookup (off := 60) (tgt := 61) hx hb dX2_formOf_1 (by decide) (sw_ne e1 rfl (sw_ne e2 rfl (sw_ne e3 rfl (sw_eq e4 rfl)))) (by decide) ?_
          refine va_ldcS (tx := "nMM") hx hb hown (C.2.1.2.2.1 4 (by decide)) dX2_formOf_61 ?_
          cases h
          exact E _ _ _ _ _ hW rfl dX2_formOf_63
        · replace h := q_f e4 h
          by_cases e5 : p1 = 119
          · replace h := q_t e5 h
            refine lv_lookup (off := 54) (tgt := 55) hx hb dX2_formOf_1 (by decide) (sw_ne e1 rfl (sw_ne e2 rfl (sw_ne e3 rfl (sw_ne e4 rfl (sw_eq e5 rfl))))) (by decide) ?_
            refine va_ldcS (tx := "wLMW") hx hb hown (C.2.1.2.2.1 2 (by decide)) dX2_formOf_55 ?_
            cases h
            exact E _ _ _ _ _ hW rfl dX2_formOf_57
          · replace h := q_f e5 h
            refine lv_lookup (off := 66) (tgt := 67) hx hb dX2_formOf_1 (by decide) (sw_ne e1 rfl (sw_ne e2 rfl (sw_ne e3 rfl (sw_ne e4 rfl (sw_ne e5 rfl (rfl)))))) (by decide) ?_
            refine va_ldcS (tx := "") hx hb hown (C.2.1.2.2.1 6 (by decide)) dX2_formOf_67 ?_
            cases h
            exact E _ _ _ _ _ hW rfl dX2_formOf_69
def f_X2_valueFrom (p1 : Int32) (p2 : Int32) (p3 : Int32) : Option (Int32) :=
(f_X5_isWithin (p3 - p1) 0 (p2 - 1)).bind fun t1 =>
if t1 = 0 then (
some (-1))
else (
some (p3 - p1))
theorem wo_X2_valueFrom : wordsOk yX2_valueFrom 3 := by decide +kernel
set_option maxHeartbeats 4000000 in
set_option maxRecDepth 100000 in
theorem c_X2_valueFrom (l : Launch) (g : GG) (p1 : Int32) (p2 : Int32) (p3 : Int32) (r : Int32) (h : f_X2_valueFrom p1 p2 p3 = some r) : CI l yX2_valueFrom wsX2_valueFrom 1 22 g [.int p1, .int p2, .int p3] ([]) r ([]) := by
  refine CI.mk (own := RX2) (by decide) rfl rfl (Nat.le_of_ble_eq_true rfl) ?_
  intro p e R s m args below meth c Z Q C E hR H hW ls hl
  have hx := C.1.1
  have hb := C.1.2.1
  have hown := C.1.2.2.2.1
  replace hW : WdG g Z s.heap H [] [] := hW.re rfl
  replace hl : lv_has ls 4 [(0, .int p1), (1, .int p2), (2, .int p3)] := hl
  unfold f_X2_valueFrom at h
  refine lv_iload_n hx hb dX2_valueFrom_0 rfl (lv_at hl 2 rfl) ?_
  refine lv_iload_n hx hb dX2_valueFrom_1 rfl (lv_at hl 0 rfl) ?_
  refine lv_isub hx hb dX2_valueFrom_2 ?_
  refine lv_istore_n (lv' := [(3, .int (p3 - p1)), (0, .int p1), (1, .int p2), (2, .int p3)]) hx hb dX2_valueFrom_3 rfl hl (by decide) rfl (fun ls hl => ?_)
  refine lv_iload_n hx hb dX2_valueFrom_4 rfl (lv_at hl 0 rfl) ?_
  refine lv_iconst (v := 0) hx hb dX2_valueFrom_5 (by decide) ?_
  refine lv_iload_n hx hb dX2_valueFrom_6 rfl (lv_at hl 2 rfl) ?_
  refine lv_iconst (v := 1) hx hb dX2_valueFrom_7 (by decide) ?_
  refine lv_isub hx hb dX2_valueFrom_8 ?_
  obtain ⟨t1, h2, h⟩ := q_b h
  refine r_cNi C hW (nA := 3) (As := [.int (p3 - p1), .int 0, .int (p2 - 1)]) (rest := []) (c_X5_isWithin l g (p3 - p1) 0 (p2 - 1) _ h2) gX2_valueFrom_X5_isWithin_n19 rfl (List.mem_of_getElem? (i := 12) rfl) (List.mem_of_getElem? (i := 2) rfl) (List.mem_of_getElem? (i := 1) rfl) wo_X5_isWithin (rmk hR rfl rfl) rfl rfl hl.1 (Nat.le_of_ble_eq_true rfl) rz dX2_valueFrom_9 (n := 0) (is := []) (rs := []) (bs' := []) rfl rfl pm_11 rfl rfl rfl (fun H locs hW => ?_)
  refine lv_if_eq (tgt := 19) hx hb dX2_valueFrom_12 (by decide) (fun e3 => ?_) (fun e3 => ?_)
  · replace h := q_t e3 h
    refine lv_iconst (v := (-1)) hx hb dX2_valueFrom_19 (by decide) ?_
    cases h
    exact E _ _ _ _ _ hW rfl rfl dX2_valueFrom_20
  · replace h := q_f e3 h
    refine lv_iload_n hx hb dX2_valueFrom_15 rfl (lv_at hl 0 rfl) ?_
    refine lv_goto (tgt := 20) hx hb dX2_valueFrom_16 (by decide) ?_
    cases h
    exact E _ _ _ _ _ hW rfl rfl dX2_valueFrom_20
def f_X2_valueAt (q1 : Nat) (p2 : Int32) (p3 : Int32) : Option (Int32) :=
(f_str_length q1).bind fun t1 =>
(f_X5_isWithin p2 0 (t1 - 1)).bind fun t3 =>
if t3 = 0 then (
some (-1))
else (
(f_str_charAt q1 p2).bind fun t6 =>
if t6 = 68 then (
(f_X2_valueFrom 48 4 p3).bind fun t9 =>
some t9)
else if t6 = 76 then (
(f_X2_valueFrom 48 3 p3).bind fun t12 =>
some t12)
else if t6 = 77 then (
(f_X2_valueFrom 97 16 p3).bind fun t15 =>
some t15)
else if t6 = 78 then (
(f_X2_valueFrom 48 2 p3).bind fun t18 =>
some t18)
else if t6 = 87 then (
(f_X2_valueFrom 48 4 p3).bind fun t21 =>
some t21)
else if t6 = 89 then (
(f_str_indexOf 7 (((p3).toUInt32 % 65536).toInt32)).bind fun t24 =>
some t24)
else (
some (-1)))
theorem wo_X2_valueAt : wordsOk yX2_valueAt 3 := by decide +kernel
set_option maxHeartbeats 4000000 in
set_option maxRecDepth 100000 in
theorem c_X2_valueAt (l : Launch) (g : GG) (q1 : Nat) (p2 : Int32) (p3 : Int32) (r : Int32) (h : f_X2_valueAt q1 p2 p3 = some r) : CI l yX2_valueAt wsX2_valueAt 5 141 g [.ref (gK g q1), .int p2, .int p3] ([]) r ([]) := by
  refine CI.mk (own := RX2) (by decide) rfl rfl (Nat.le_of_ble_eq_true rfl) ?_
  intro p e R s m args below meth c Z Q C E hR H hW ls hl
  have hx := C.1.1
  have hb := C.1.2.1
  have hown := C.1.2.2.2.1
  replace hW : WdG g Z s.heap H [] [] := hW.re rfl
  replace hl : lv_has ls 3 [(0, .ref (gK g q1)), (1, .int p2), (2, .int p3)] := hl
  unfold f_X2_valueAt at h
  refine lv_iload_n hx hb dX2_valueAt_0 rfl (lv_at hl 1 rfl) ?_
  refine lv_iconst (v := 0) hx hb dX2_valueAt_1 (by decide) ?_
  refine lv_aload_n hx hb dX2_valueAt_2 rfl (lv_at hl 0 rfl) ?_
  obtain ⟨t1, h2, h⟩ := q_b h
  refine r_cStr C hW (nA := 0) (As := []) (rest := [.int 0, .int p2]) (c_str_length l g q1 _ h2) gX2_valueAt_J0_length_8abf5 rfl ⟨rfl, by decide⟩ (rmk hR rfl rfl) (f_str_length_lt h2) rfl rfl hl.1 (Nat.le_of_ble_eq_true rfl) rz dX2_valueAt_3 (fun H locs hW => ?_)
  refine lv_iconst (v := 1) hx hb dX2_valueAt_6 (by decide) ?_
  refine lv_isub hx hb dX2_valueAt_7 ?_
  obtain ⟨t3, h4, h⟩ := q_b h
  refine r_cNi C hW (nA := 3) (As := [.int p2, .int 0, .int (t1 - 1)]) (rest := []) (c_X5_isWithin l g p2 0 (t1 - 1) _ h4) gX2_valueAt_X5_isWithin_n19 rfl (List.mem_of_getElem? (i := 12) rfl) (List.mem_of_getElem? (i := 14) rfl) (List.mem_of_getElem? (i := 13) rfl) wo_X5_isWithin (rmk hR rfl rfl) rfl rfl hl.1 (Nat.le_of_ble_eq_true rfl) rz dX2_valueAt_8 (n := 0) (is := []) (rs := []) (bs' := []) rfl rfl pm_11 rfl rfl rfl (fun H locs hW => ?_)
  refine lv_if_ne (tgt := 16) hx hb dX2_valueAt_11 (by decide) (fun e5 => ?_) (fun e5 => ?_)
  · replace h := q_f e5 h
    refine lv_aload_n hx hb dX2_valueAt_16 rfl (lv_at hl 0 rfl) ?_
    refine lv_iload_n hx hb dX2_valueAt_17 rfl (lv_at hl 1 rfl) ?_
    obtain ⟨t6, h7, h⟩ := q_b h
    refine r_cStr C hW (nA := 1) (As := [.int p2]) (rest := []) (c_str_charAt l g q1 p2 _ h7) gX2_valueAt_J0_charAt_5068e rfl ⟨rfl, by decide⟩ (rmk hR rfl rfl) (f_str_charAt_lt h7) rfl rfl hl.1 (Nat.le_of_ble_eq_true rfl) rz dX2_valueAt_18 (fun H locs hW => ?_)
    by_cases e8 : t6 = 68
    · replace h := q_t e8 h
      refine lv_lookup (off := 100) (tgt := 121) hx hb dX2_valueAt_21 (by decide) (sw_eq e8 rfl) (by decide) ?_
      refine lv_bipush (v := 48) hx hb dX2_valueAt_121 (by decide) ?_
      refine lv_iconst (v := 4) hx hb dX2_valueAt_123 (by decide) ?_
      refine lv_iload_n hx hb dX2_valueAt_124 rfl (lv_at hl 2 rfl) ?_
      obtain ⟨t9, h10, h⟩ := q_b h
      refine r_cSi C hW (nA := 3) (As := [.int 48, .int 4, .int p3]) (rest := []) (c_X2_valueFrom l g 48 4 p3 _ h10) gX2_valueAt_X2_valueFrom rfl wo_X2_valueFrom (rmk hR rfl rfl) rfl rfl hl.1 (Nat.le_of_ble_eq_true rfl) rz dX2_valueAt_125 (n := 0) (is := []) (rs := []) (bs' := []) rfl rfl pm_11 rfl rfl rfl (fun H locs hW => ?_)
      cases h
      exact E _ _ _ _ _ hW rfl rfl dX2_valueAt_128
    · replace h := q_f e8 h
      by_cases e11 : t6 = 76
      · replace h := q_t e11 h
        refine lv_lookup (off := 59) (tgt := 80) hx hb dX2_valueAt_21 (by decide) (sw_ne e8 rfl (sw_eq e11 rfl)) (by decide) ?_
        refine lv_bipush (v := 48) hx hb dX2_valueAt_80 (by decide) ?_
        refine lv_iconst (v := 3) hx hb dX2_valueAt_82 (by decide) ?_
        refine lv_iload_n hx hb dX2_valueAt_83 rfl (lv_at hl 2 rfl) ?_
        obtain ⟨t12, h13, h⟩ := q_b h
        refine r_cSi C hW (nA := 3) (As := [.int 48, .int 3, .int p3]) (rest := []) (c_X2_valueFrom l g 48 3 p3 _ h13) gX2_valueAt_X2_valueFrom rfl wo_X2_valueFrom (rmk hR rfl rfl) rfl rfl hl.1 (Nat.le_of_ble_eq_true rfl) rz dX2_valueAt_84 (n := 0) (is := []) (rs := []) (bs' := []) rfl rfl pm_11 rfl rfl rfl (fun H locs hW => ?_)
        cases h
        exact E _ _ _ _ _ hW rfl rfl dX2_valueAt_87
      · replace h := q_f e11 h
        by_cases e14 : t6 = 77
        · replace h := q_t e14 h
          refine lv_lookup (off := 75) (tgt := 96) hx hb dX2_valueAt_21 (by decide) (sw_ne e8 rfl (sw_ne e11 rfl (sw_eq e14 rfl))) (by decide) ?_
          refine lv_bipush (v := 97) hx hb dX2_valueAt_96 (by decide) ?_
          refine lv_bipush (v := 16) hx hb dX2_valueAt_98 (by decide) ?_
          refine lv_iload_n hx hb dX2_valueAt_100 rfl (lv_at hl 2 rfl) ?_
          obtain ⟨t15, h16, h⟩ := q_b h
          refine r_cSi C hW (nA := 3) (As := [.int 97, .int 16, .int p3]) (rest := []) (c_X2_valueFrom l g 97 16 p3 _ h16) gX2_valueAt_X2_valueFrom rfl wo_X2_valueFrom (rmk hR rfl rfl) rfl rfl hl.1 (Nat.le_of_ble_eq_true rfl) rz dX2_valueAt_101 (n := 0) (is := []) (rs := []) (bs' := []) rfl rfl pm_11 rfl rfl rfl (fun H locs hW => ?_)
          cases h
          exact E _ _ _ _ _ hW rfl rfl dX2_valueAt_104
        · replace h := q_f e14 h
          by_cases e17 : t6 = 78
          · replace h := q_t e17 h
            refine lv_lookup (off := 67) (tgt := 88) hx hb dX2_valueAt_21 (by decide) (sw_ne e8 rfl (sw_ne e11 rfl (sw_ne e14 rfl (sw_eq e17 rfl)))) (by decide) ?_
            refine lv_bipush (v := 48) hx hb dX2_valueAt_88 (by decide) ?_
            refine lv_iconst (v := 2) hx hb dX2_valueAt_90 (by decide) ?_
            refine lv_iload_n hx hb dX2_valueAt_91 rfl (lv_at hl 2 rfl) ?_
            obtain ⟨t18, h19, h⟩ := q_b h
            refine r_cSi C hW (nA := 3) (As := [.int 48, .int 2, .int p3]) (rest := []) (c_X2_valueFrom l g 48 2 p3 _ h19) gX2_valueAt_X2_valueFrom rfl wo_X2_valueFrom (rmk hR rfl rfl) rfl rfl hl.1 (Nat.le_of_ble_eq_true rfl) rz dX2_valueAt_92 (n := 0) (is := []) (rs := []) (bs' := []) rfl rfl pm_11 rfl rfl rfl (fun H locs hW => ?_)
            cases h
            exact E _ _ _ _ _ hW rfl rfl dX2_valueAt_95
          · replace h := q_f e17 h
            by_cases e20 : t6 = 87
            · replace h := q_t e20 h
              refine lv_lookup (off := 92) (tgt := 113) hx hb dX2_valueAt_21 (by decide) (sw_ne e8 rfl (sw_ne e11 rfl (sw_ne e14 rfl (sw_ne e17 rfl (sw_eq e20 rfl))))) (by decide) ?_
              refine lv_bipush (v := 48) hx hb dX2_valueAt_113 (by decide) ?_
              refine lv_iconst (v := 4) hx hb dX2_valueAt_115 (by decide) ?_
              refine lv_iload_n hx hb dX2_valueAt_116 rfl (lv_at hl 2 rfl) ?_
              obtain ⟨t21, h22, h⟩ := q_b h
              refine r_cSi C hW (nA := 3) (As := [.int 48, .int 4, .int p3]) (rest := []) (c_X2_valueFrom l g 48 4 p3 _ h22) gX2_valueAt_X2_valueFrom rfl wo_X2_valueFrom (rmk hR rfl rfl) rfl rfl hl.1 (Nat.le_of_ble_eq_true rfl) rz dX2_valueAt_117 (n := 0) (is := []) (rs := []) (bs' := []) rfl rfl pm_11 rfl rfl rfl (fun H locs hW => ?_)
              cases h
              exact E _ _ _ _ _ hW rfl rfl dX2_valueAt_120
            · replace h := q_f e20 h
              by_cases e23 : t6 = 89
              · replace h := q_t e23 h
                refine lv_lookup (off := 84) (tgt := 105) hx hb dX2_valueAt_21 (by decide) (sw_ne e8 rfl (sw_ne e11 rfl (sw_ne e14 rfl (sw_ne e17 rfl (sw_ne e20 rfl (sw_eq e23 rfl)))))) (by decide) ?_
                refine va_ldcS (tx := "udb") hx hb hown (C.2.1.2.2.1 7 (by decide)) dX2_valueAt_105 ?_
                refine lv_iload_n hx hb dX2_valueAt_107 rfl (lv_at hl 2 rfl) ?_
                refine lv_i2c (v := ((p3).toUInt32 % 65536).toInt32) hx hb dX2_valueAt_108 rfl ?_
                obtain ⟨t24, h25, h⟩ := q_b h
                refine r_cStr C hW (nA := 1) (As := [.int (((p3).toUInt32 % 65536).toInt32)]) (rest := []) (c_str_indexOf l g 7 (((p3).toUInt32 % 65536).toInt32) _ h25) gX2_valueAt_J0_indexOf_0f7a4 rfl ⟨rfl, by decide⟩ (rmk hR rfl rfl) (f_str_indexOf_lt h25) rfl rfl hl.1 (Nat.le_of_ble_eq_true rfl) rz dX2_valueAt_109 (fun H locs hW => ?_)
                cases h
                exact E _ _ _ _ _ hW rfl rfl dX2_valueAt_112
              · replace h := q_f e23 h
                refine lv_lookup (off := 108) (tgt := 129) hx hb dX2_valueAt_21 (by decide) (sw_ne e8 rfl (sw_ne e11 rfl (sw_ne e14 rfl (sw_ne e17 rfl (sw_ne e20 rfl (sw_ne e23 rfl (rfl))))))) (by decide) ?_
                refine lv_iconst (v := (-1)) hx hb dX2_valueAt_129 (by decide) ?_
                cases h
                exact E _ _ _ _ _ hW rfl rfl dX2_valueAt_130
  · replace h := q_t e5 h
    refine lv_iconst (v := (-1)) hx hb dX2_valueAt_14 (by decide) ?_
    cases h
    exact E _ _ _ _ _ hW rfl rfl dX2_valueAt_15
def f_X2_firstError_l7 (x : TX2s) (k7 : (Nat × Int32 × Int32) → Option (Int32)) (v7 : Nat × Int32 × Int32) : Option (Int32) :=
if x.2 ≤ v7.2.2 then (
(f_str_length v7.1).bind fun t2 =>
if v7.2.1 = t2 then (
some (-6))
else (
some x.2))
else (
(f_X2_codeAt x v7.2.2).bind fun t5 =>
(f_str_length v7.1).bind fun t7 =>
if v7.2.1 = t7 then (
if t5 = 59 then (
k7 (v7.1, 0, (v7.2.2 + 1)))
else (
some v7.2.2))
else (
if v7.2.1 = 0 then (
(f_X2_formOf t5).bind fun t14 =>
(f_str_isEmpty t14).bind fun t16 =>
if t16 = 0 then (
k7 (t14, 1, (v7.2.2 + 1)))
else (
some v7.2.2))
else (
(f_X2_valueAt v7.1 v7.2.1 t5).bind fun t11 =>
if 0 ≤ t11 then (
k7 (v7.1, (v7.2.1 + 1), (v7.2.2 + 1)))
else (
some v7.2.2))))
def f_X2_firstError (x : TX2s) : Option (Int32) :=
lpN (f_X2_firstError_l7 x) 3000 (0, 0, 0)
theorem wo_X2_firstError : wordsOk yX2_firstError 0 := by decide +kernel
theorem inX2_firstError_X2 : ∀ w ∈ wsX20, w ∈ wsX2_firstError := fun _ h => List.mem_cons_of_mem _ (List.mem_append_right _ h)
set_option maxHeartbeats 4000000 in
set_option maxRecDepth 100000 in
theorem c_X2_firstError (l : Launch) (g : GG) (A : Nat → Nat) (b : Nat) (x : TX2s) (r : Int32) (h : f_X2_firstError x = some r) : CI l yX2_firstError wsX2_firstError 6 163 g [.ref (A b)] (wX2 g A b x) r (wX2 g A b x) := by
  refine CI.mk (own := RX2) (by decide) rfl rfl (Nat.le_of_ble_eq_true rfl) ?_
  intro p e R s m args below meth c Z Q C E hR H hW ls hl
  have hx := C.1.1
  have hb := C.1.2.1
  have hown := C.1.2.2.2.1
  replace hW : WdG g Z s.heap H [] [[(A b, .inr (2, [.ref (A (b + 1)), .int x.2]))], [(A (b + 1), .inl (gC g, 70, .inl x.1))]] := hW.re rfl
  replace hl : lv_has ls 5 [(0, .ref (A b))] := hl
  unfold f_X2_firstError at h
  refine va_ldcS (tx := "?") hx hb hown (C.2.1.2.2.1 0 (by decide)) dX2_firstError_0 ?_
  refine lv_astore_n (lv' := [(1, .ref (gK g 0)), (0, .ref (A b))]) hx hb dX2_firstError_2 rfl hl (by decide) rfl (fun ls hl => ?_)
  refine lv_iconst (v := 0) hx hb dX2_firstError_3 (by decide) ?_
  refine lv_istore_n (lv' := [(2, .int 0), (1, .ref (gK g 0)), (0, .ref (A b))]) hx hb dX2_firstError_4 rfl hl (by decide) rfl (fun ls hl => ?_)
  refine lv_iconst (v := 0) hx hb dX2_firstError_5 (by decide) ?_
  refine lv_istore_n (lv' := [(3, .int 0), (2, .int 0), (1, .ref (gK g 0)), (0, .ref (A b))]) hx hb dX2_firstError_6 rfl hl (by decide) rfl (fun ls hl => ?_)
  have L7 : ∀ n7 : Nat, ∀ (v7 : Nat × Int32 × Int32), lpN (f_X2_firstError_l7 x) n7 v7 = some r → ∀ (H : Heap) (locs : List Loc), WdG g Z s.heap H locs [[(A b, .inr (2, [.ref (A (b + 1)), .int x.2]))], [(A (b + 1), .inl (gC g, 70, .inl x.1))]] → ∀ ls : Array Slot, lv_has ls 5 [(0, .ref (A b)), (1, .ref (gK g v7.1)), (2, .int v7.2.1), (3, .int v7.2.2)] → W p l e R s m args below meth c H locs 0 0 Q (F0 m 7 ls []) := by
    intro n7
    induction n7 with
    | zero => intro v7 h; exact absurd (show none = some r from h) (fun h => by cases h)
    | succ n7 ih7 =>
      intro v7 h H locs hW ls hl
      replace h : f_X2_firstError_l7 x (lpN (f_X2_firstError_l7 x) n7) v7 = some r := h
      unfold f_X2_firstError_l7 at h
      refine lv_iload_n hx hb dX2_firstError_7 rfl (lv_at hl 3 rfl) ?_
      refine lv_aload_n hx hb dX2_firstError_8 rfl (lv_at hl 0 rfl) ?_
      refine r_get C hW (K := RX2) (T := TX2) (N := 2) (v := .int x.2) 0 0 1 rfl rfl rfl inX2_firstError_X2 (by decide) (List.mem_of_getElem? (i := 1) rfl) rfl rfl dX2_firstError_9 ?_
      refine lv_icmp_ge (tgt := 89) hx hb dX2_firstError_12 (by decide) (fun e1 => ?_) (fun e1 => ?_)
      · replace h := q_t e1 h
        refine lv_iload_n hx hb dX2_firstError_89 rfl (lv_at hl 2 rfl) ?_
        refine lv_aload_n hx hb dX2_firstError_90 rfl (lv_at hl 1 rfl) ?_
        obtain ⟨t2, h3, h⟩ := q_b h
        refine r_cStr C hW (nA := 0) (As := []) (rest := [.int v7.2.1]) (c_str_length l g v7.1 _ h3) gX2_firstError_J0_length_8abf5 rfl ⟨rfl, by decide⟩ (rmk hR rfl rfl) (f_str_length_lt h3) rfl rfl hl.1 (Nat.le_of_ble_eq_true rfl) rz dX2_firstError_91 (fun H locs hW => ?_)
        refine lv_icmp_ne (tgt := 102) hx hb dX2_firstError_94 (by decide) (fun e4 => ?_) (fun e4 => ?_)
        · replace h := q_f e4 h
          refine lv_aload_n hx hb dX2_firstError_102 rfl (lv_at hl 0 rfl) ?_
          refine r_get C hW (K := RX2) (T := TX2) (N := 2) (v := .int x.2) 0 0 1 rfl rfl rfl inX2_firstError_X2 (by decide) (List.mem_of_getElem? (i := 1) rfl) rfl rfl dX2_firstError_103 ?_
          cases h
          exact E _ _ _ _ _ hW rfl rfl dX2_firstError_106
        · replace h := q_t e4 h
          refine lv_bipush (v := (-6)) hx hb dX2_firstError_97 (by decide) ?_
          refine lv_goto (tgt := 106) hx hb dX2_firstError_99 (by decide) ?_
          cases h
          exact E _ _ _ _ _ hW rfl rfl dX2_firstError_106
      · replace h := q_f e1 h
        refine lv_aload_n hx hb dX2_firstError_15 rfl (lv_at hl 0 rfl) ?_
        refine lv_iload_n hx hb dX2_firstError_16 rfl (lv_at hl 3 rfl) ?_
        obtain ⟨t5, h6, h⟩ := q_b h
        refine r_cVi C hW (nA := 1) (As := [.int v7.2.2]) (rest := []) (c_X2_codeAt l g A b x v7.2.2 _ h6) gX2_firstError_X2_codeAt rfl ⟨rfl, wo_X2_codeAt⟩ (rmk hR rfl rfl) rfl rfl rfl rfl hl.1 (Nat.le_of_ble_eq_true rfl) rz dX2_firstError_17 (n := 2) (is := [0, 1]) (rs := []) (bs' := [[(A b, .inr (2, [.ref (A (b + 1)), .int x.2]))], [(A (b + 1), .inl (gC g, 70, .inl x.1))]]) rfl rfl pm_12 rfl rfl rfl (fun H locs hW => ?_)
        refine lv_istore (lv' := [(4, .int t5), (0, .ref (A b)), (1, .ref (gK g v7.1)), (2, .int v7.2.1), (3, .int v7.2.2)]) hx hb dX2_firstError_20 hl (by decide) rfl (fun ls hl => ?_)
        refine lv_iload_n hx hb dX2_firstError_22 rfl (lv_at hl 3 rfl) ?_
        refine lv_aload_n hx hb dX2_firstError_23 rfl (lv_at hl 2 rfl) ?_
        obtain ⟨t7, h8, h⟩ := q_b h
        refine r_cStr C hW (nA := 0) (As := []) (rest := [.int v7.2.1]) (c_str_length l g v7.1 _ h8) gX2_firstError_J0_length_8abf5 rfl ⟨rfl, by decide⟩ (rmk hR rfl rfl) (f_str_length_lt h8) rfl rfl hl.1 (Nat.le_of_ble_eq_true rfl) rz dX2_firstError_24 (fun H locs hW => ?_)
        refine lv_icmp_ne (tgt := 44) hx hb dX2_firstError_27 (by decide) (fun e9 => ?_) (fun e9 => ?_)
        · replace h := q_f e9 h
          refine lv_iload_n hx hb dX2_firstError_44 rfl (lv_at hl 3 rfl) ?_
          refine lv_if_ne (tgt := 68) hx hb dX2_firstError_45 (by decide) (fun e10 => ?_) (fun e10 => ?_)
          · replace h := q_f e10 h
            refine lv_aload_n hx hb dX2_firstError_68 rfl (lv_at hl 2 rfl) ?_
            refine lv_iload_n hx hb dX2_firstError_69 rfl (lv_at hl 3 rfl) ?_
            refine lv_iload hx hb dX2_firstError_70 (lv_at hl 0 rfl) ?_
            obtain ⟨t11, h12, h⟩ := q_b h
            refine r_cSi C hW (nA := 3) (As := [.ref (gK g v7.1), .int v7.2.1, .int t5]) (rest := []) (c_X2_valueAt l g v7.1 v7.2.1 t5 _ h12) gX2_firstError_X2_valueAt rfl wo_X2_valueAt (rmk hR rfl rfl) rfl rfl hl.1 (Nat.le_of_ble_eq_true rfl) rz dX2_firstError_72 (n := 2) (is := []) (rs := [0, 1]) (bs' := [[(A b, .inr (2, [.ref (A (b + 1)), .int x.2]))], [(A (b + 1), .inl (gC g, 70, .inl x.1))]]) rfl rfl pm_10 rfl rfl rfl (fun H locs hW => ?_)
            refine lv_if_ge (tgt := 80) hx hb dX2_firstError_75 (by decide) (fun e13 => ?_) (fun e13 => ?_)
            · replace h := q_t e13 h
              refine lv_iinc (v := (v7.2.1 + 1)) (lv' := [(2, .int (v7.2.1 + 1)), (4, .int t5), (0, .ref (A b)), (1, .ref (gK g v7.1)), (3, .int v7.2.2)]) hx hb dX2_firstError_80 hl (k := 3) rfl rfl (by decide) rfl (fun ls hl => ?_)
              refine lv_iinc (v := (v7.2.2 + 1)) (lv' := [(3, .int (v7.2.2 + 1)), (2, .int (v7.2.1 + 1)), (4, .int t5), (0, .ref (A b)), (1, .ref (gK g v7.1))]) hx hb dX2_firstError_83 hl (k := 4) rfl rfl (by decide) rfl (fun ls hl => ?_)
              refine lv_goto (tgt := 7) hx hb dX2_firstError_86 (by decide) ?_
              exact ih7 (v7.1, (v7.2.1 + 1), (v7.2.2 + 1)) h _ _ hW _ (lv_sub hl [3, 4, 1, 0] rfl)
            · replace h := q_f e13 h
              refine lv_iload_n hx hb dX2_firstError_78 rfl (lv_at hl 4 rfl) ?_
              cases h
              exact E _ _ _ _ _ hW rfl rfl dX2_firstError_79
          · replace h := q_t e10 h
            refine lv_iload hx hb dX2_firstError_48 (lv_at hl 0 rfl) ?_
            obtain ⟨t14, h15, h⟩ := q_b h
            refine r_cSr C hW (nA := 1) (As := [.int t5]) (rest := []) (c_X2_formOf l g t5 _ h15) gX2_firstError_X2_formOf rfl wo_X2_formOf (rmk hR rfl rfl) rfl rfl hl.1 (Nat.le_of_ble_eq_true rfl) rz dX2_firstError_50 (n := 2) (is := []) (rs := [0, 1]) (bs' := [[(A b, .inr (2, [.ref (A (b + 1)), .int x.2]))], [(A (b + 1), .inl (gC g, 70, .inl x.1))]]) rfl rfl pm_10 rfl rfl rfl (fun H locs hW => ?_)
            refine lv_astore_n (lv' := [(1, .ref (gK g t14)), (4, .int t5), (0, .ref (A b)), (2, .int v7.2.1), (3, .int v7.2.2)]) hx hb dX2_firstError_53 rfl hl (by decide) rfl (fun ls hl => ?_)
            refine lv_aload_n hx hb dX2_firstError_54 rfl (lv_at hl 0 rfl) ?_
            obtain ⟨t16, h17, h⟩ := q_b h
            refine r_cStr C hW (nA := 0) (As := []) (rest := []) (c_str_isEmpty l g t14 _ h17) gX2_firstError_J0_isEmpty_aae02 rfl ⟨rfl, by decide⟩ (rmk hR rfl rfl) (f_str_isEmpty_lt h17) rfl rfl hl.1 (Nat.le_of_ble_eq_true rfl) rz dX2_firstError_55 (fun H locs hW => ?_)
            refine lv_if_eq (tgt := 63) hx hb dX2_firstError_58 (by decide) (fun e18 => ?_) (fun e18 => ?_)
            · replace h := q_t e18 h
              refine lv_iconst (v := 1) hx hb dX2_firstError_63 (by decide) ?_
              refine lv_istore_n (lv' := [(2, .int 1), (1, .ref (gK g t14)), (4, .int t5), (0, .ref (A b)), (3, .int v7.2.2)]) hx hb dX2_firstError_64 rfl hl (by decide) rfl (fun ls hl => ?_)
              refine lv_goto (tgt := 83) hx hb dX2_firstError_65 (by decide) ?_
              refine lv_iinc (v := (v7.2.2 + 1)) (lv' := [(3, .int (v7.2.2 + 1)), (2, .int 1), (1, .ref (gK g t14)), (4, .int t5), (0, .ref (A b))]) hx hb dX2_firstError_83 hl (k := 4) rfl rfl (by decide) rfl (fun ls hl => ?_)
              refine lv_goto (tgt := 7) hx hb dX2_firstError_86 (by decide) ?_
              exact ih7 (t14, 1, (v7.2.2 + 1)) h _ _ hW _ (lv_sub hl [4, 2, 1, 0] rfl)
            · replace h := q_f e18 h
              refine lv_iload_n hx hb dX2_firstError_61 rfl (lv_at hl 4 rfl) ?_
              cases h
              exact E _ _ _ _ _ hW rfl rfl dX2_firstError_62
        · replace h := q_t e9 h
          refine lv_iload hx hb dX2_firstError_30 (lv_at hl 0 rfl) ?_
          refine lv_bipush (v := 59) hx hb dX2_firstError_32 (by decide) ?_
          refine lv_icmp_eq (tgt := 39) hx hb dX2_firstError_34 (by decide) (fun e19 => ?_) (fun e19 => ?_)
          · replace h := q_t e19 h
            refine lv_iconst (v := 0) hx hb dX2_firstError_39 (by decide) ?_
            refine lv_istore_n (lv' := [(2, .int 0), (4, .int t5), (0, .ref (A b)), (1, .ref (gK g v7.1)), (3, .int v7.2.2)]) hx hb dX2_firstError_40 rfl hl (by decide) rfl (fun ls hl => ?_)
            refine lv_goto (tgt := 83) hx hb dX2_firstError_41 (by decide) ?_
            refine lv_iinc (v := (v7.2.2 + 1)) (lv' := [(3, .int (v7.2.2 + 1)), (2, .int 0), (4, .int t5), (0, .ref (A b)), (1, .ref (gK g v7.1))]) hx hb dX2_firstError_83 hl (k := 4) rfl rfl (by decide) rfl (fun ls hl => ?_)
            refine lv_goto (tgt := 7) hx hb dX2_firstError_86 (by decide) ?_
            exact ih7 (v7.1, 0, (v7.2.2 + 1)) h _ _ hW _ (lv_sub hl [3, 4, 1, 0] rfl)
          · replace h := q_f e19 h
            refine lv_iload_n hx hb dX2_firstError_37 rfl (lv_at hl 4 rfl) ?_
            cases h
            exact E _ _ _ _ _ hW rfl rfl dX2_firstError_38
  exact L7 3000 (0, 0, 0) h _ _ hW _ (lv_sub hl [3, 2, 1, 0] rfl)
def f_X2_widthAt (x : TX2s) (p1 : Int32) : Option (Int32) :=
(f_X2_codeAt x p1).bind fun t1 =>
(f_X2_formOf t1).bind fun t3 =>
(f_str_length t3).bind fun t5 =>
some t5
theorem wo_X2_widthAt : wordsOk yX2_widthAt 1 := by decide +kernel
set_option maxHeartbeats 4000000 in
set_option maxRecDepth 100000 in
theorem c_X2_widthAt (l : Launch) (g : GG) (A : Nat → Nat) (b : Nat) (x : TX2s) (p1 : Int32) (r : Int32) (h : f_X2_widthAt x p1 = some r) : CI l yX2_widthAt wsX2_widthAt 2 43 g [.ref (A b), .int p1] (wX2 g A b x) r (wX2 g A b x) := by
  refine CI.mk (own := RX2) (by decide) rfl rfl (Nat.le_of_ble_eq_true rfl) ?_
  intro p e R s m args below meth c Z Q C E hR H hW ls hl
  have hx := C.1.1
  have hb := C.1.2.1
  have hown := C.1.2.2.2.1
  replace hW : WdG g Z s.heap H [] [[(A b, .inr (2, [.ref (A (b + 1)), .int x.2]))], [(A (b + 1), .inl (gC g, 70, .inl x.1))]] := hW.re rfl
  replace hl : lv_has ls 2 [(0, .ref (A b)), (1, .int p1)] := hl
  unfold f_X2_widthAt at h
  refine lv_aload_n hx hb dX2_widthAt_0 rfl (lv_at hl 0 rfl) ?_
  refine lv_iload_n hx hb dX2_widthAt_1 rfl (lv_at hl 1 rfl) ?_
  obtain ⟨t1, h2, h⟩ := q_b h
  refine r_cVi C hW (nA := 1) (As := [.int p1]) (rest := []) (c_X2_codeAt l g A b x p1 _ h2) gX2_widthAt_X2_codeAt rfl ⟨rfl, wo_X2_codeAt⟩ (rmk hR rfl rfl) rfl rfl rfl rfl hl.1 (Nat.le_of_ble_eq_true rfl) rz dX2_widthAt_2 (n := 2) (is := [0, 1]) (rs := []) (bs' := [[(A b, .inr (2, [.ref (A (b + 1)), .int x.2]))], [(A (b + 1), .inl (gC g, 70, .inl x.1))]]) rfl rfl pm_12 rfl rfl rfl (fun H locs hW => ?_)
  obtain ⟨t3, h4, h⟩ := q_b h
  refine r_cSr C hW (nA := 1) (As := [.int t1]) (rest := []) (c_X2_formOf l g t1 _ h4) gX2_widthAt_X2_formOf rfl wo_X2_formOf (rmk hR rfl rfl) rfl rfl hl.1 (Nat.le_of_ble_eq_true rfl) rz dX2_widthAt_5 (n := 2) (is := []) (rs := [0, 1]) (bs' := [[(A b, .inr (2, [.ref (A (b + 1)), .int x.2]))], [(A (b + 1), .inl (gC g, 70, .inl x.1))]]) rfl rfl pm_10 rfl rfl rfl (fun H locs hW => ?_)
  obtain ⟨t5, h6, h⟩ := q_b h
  refine r_cStr C hW (nA := 0) (As := []) (rest := []) (c_str_length l g t3 _ h6) gX2_widthAt_J0_length_8abf5 rfl ⟨rfl, by decide⟩ (rmk hR rfl rfl) (f_str_length_lt h6) rfl rfl hl.1 (Nat.le_of_ble_eq_true rfl) rz dX2_widthAt_8 (fun H locs hW => ?_)
  cases h
  exact E _ _ _ _ _ hW rfl rfl dX2_widthAt_11
def f_X2_argument (x : TX2s) (p1 : Int32) (p2 : Int32) : Option (Int32) :=
(f_X2_codeAt x p1).bind fun t1 =>
(f_X2_formOf t1).bind fun t3 =>
(f_X2_codeAt x (p1 + p2)).bind fun t5 =>
(f_X2_valueAt t3 p2 t5).bind fun t7 =>
some t7
theorem wo_X2_argument : wordsOk yX2_argument 2 := by decide +kernel
set_option maxHeartbeats 4000000 in
set_option maxRecDepth 100000 in
theorem c_X2_argument (l : Launch) (g : GG) (A : Nat → Nat) (b : Nat) (x : TX2s) (p1 : Int32) (p2 : Int32) (r : Int32) (h : f_X2_argument x p1 p2 = some r) : CI l yX2_argument wsX2_argument 6 163 g [.ref (A b), .int p1, .int p2] (wX2 g A b x) r (wX2 g A b x) := by
  refine CI.mk (own := RX2) (by decide) rfl rfl (Nat.le_of_ble_eq_true rfl) ?_
  intro p e R s m args below meth c Z Q C E hR H hW ls hl
  have hx := C.1.1
  have hb := C.1.2.1
  have hown := C.1.2.2.2.1
  replace hW : WdG g Z s.heap H [] [[(A b, .inr (2, [.ref (A (b + 1)), .int x.2]))], [(A (b + 1), .inl (gC g, 70, .inl x.1))]] := hW.re rfl
  replace hl : lv_has ls 3 [(0, .ref (A b)), (1, .int p1), (2, .int p2)] := hl
  unfold f_X2_argument at h
  refine lv_aload_n hx hb dX2_argument_0 rfl (lv_at hl 0 rfl) ?_
  refine lv_iload_n hx hb dX2_argument_1 rfl (lv_at hl 1 rfl) ?_
  obtain ⟨t1, h2, h⟩ := q_b h
  refine r_cVi C hW (nA := 1) (As := [.int p1]) (rest := []) (c_X2_codeAt l g A b x p1 _ h2) gX2_argument_X2_codeAt rfl ⟨rfl, wo_X2_codeAt⟩ (rmk hR rfl rfl) rfl rfl rfl rfl hl.1 (Nat.le_of_ble_eq_true rfl) rz dX2_argument_2 (n := 2) (is := [0, 1]) (rs := []) (bs' := [[(A b, .inr (2, [.ref (A (b + 1)), .int x.2]))], [(A (b + 1), .inl (gC g, 70, .inl x.1))]]) rfl rfl pm_12 rfl rfl rfl (fun H locs hW => ?_)
  obtain ⟨t3, h4, h⟩ := q_b h
  refine r_cSr C hW (nA := 1) (As := [.int t1]) (rest := []) (c_X2_formOf l g t1 _ h4) gX2_argument_X2_formOf rfl wo_X2_formOf (rmk hR rfl rfl) rfl rfl hl.1 (Nat.le_of_ble_eq_true rfl) rz dX2_argument_5 (n := 2) (is := []) (rs := [0, 1]) (bs' := [[(A b, .inr (2, [.ref (A (b + 1)), .int x.2]))], [(A (b + 1), .inl (gC g, 70, .inl x.1))]]) rfl rfl pm_10 rfl rfl rfl (fun H locs hW => ?_)
  refine lv_iload_n hx hb dX2_argument_8 rfl (lv_at hl 2 rfl) ?_
  refine lv_aload_n hx hb dX2_argument_9 rfl (lv_at hl 0 rfl) ?_
  refine lv_iload_n hx hb dX2_argument_10 rfl (lv_at hl 1 rfl) ?_
  refine lv_iload_n hx hb dX2_argument_11 rfl (lv_at hl 2 rfl) ?_
  refine lv_iadd hx hb dX2_argument_12 ?_
  obtain ⟨t5, h6, h⟩ := q_b h
  refine r_cVi C hW (nA := 1) (As := [.int (p1 + p2)]) (rest := [.int p2, .ref (gK g t3)]) (c_X2_codeAt l g A b x (p1 + p2) _ h6) gX2_argument_X2_codeAt rfl ⟨rfl, wo_X2_codeAt⟩ (rmk hR rfl rfl) rfl rfl rfl rfl hl.1 (Nat.le_of_ble_eq_true rfl) rz dX2_argument_13 (n := 2) (is := [0, 1]) (rs := []) (bs' := [[(A b, .inr (2, [.ref (A (b + 1)), .int x.2]))], [(A (b + 1), .inl (gC g, 70, .inl x.1))]]) rfl rfl pm_12 rfl rfl rfl (fun H locs hW => ?_)
  obtain ⟨t7, h8, h⟩ := q_b h
  refine r_cSi C hW (nA := 3) (As := [.ref (gK g t3), .int p2, .int t5]) (rest := []) (c_X2_valueAt l g t3 p2 t5 _ h8) gX2_argument_X2_valueAt rfl wo_X2_valueAt (rmk hR rfl rfl) rfl rfl hl.1 (Nat.le_of_ble_eq_true rfl) rz dX2_argument_16 (n := 2) (is := []) (rs := [0, 1]) (bs' := [[(A b, .inr (2, [.ref (A (b + 1)), .int x.2]))], [(A (b + 1), .inl (gC g, 70, .inl x.1))]]) rfl rfl pm_10 rfl rfl rfl (fun H locs hW => ?_)
  cases h
  exact E _ _ _ _ _ hW rfl rfl dX2_argument_19
