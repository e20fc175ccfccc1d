def iX43 : TX4s := (48, 3, (fun _ => 0), (fun _ => 0))
theorem wo_X4_init : wordsOk yX4_init 1 := by decide +kernel
theorem inX4_init_X4 : ∀ w ∈ wsX40, w ∈ wsX4_init := fun _ h => List.mem_cons_of_mem _ (List.mem_append_right _ h)
set_option maxHeartbeats 4000000 in
set_option maxRecDepth 100000 in
theorem c_X4_init3 (l : Launch) (g : GG) (h0 : Nat) : CN l yX4_init wsX4_init 1 13 2 96 g [.ref h0, .int 3] [(h0, .inr (4, [.int 0, .null, .null]))] (fun w => ∃ A : Nat → Nat, A 0 = h0 ∧ w = wX4 g A 0 iX43) := by
  refine CN.mk (own := RX4) (by decide) rfl rfl rfl (Nat.le_of_ble_eq_true rfl) ?_
  intro p e R s m args below meth c Z Q C E hR hz hin H hW ls hl
  have hx := C.1.1
  have hb := C.1.2.1
  replace hl : lv_has ls 2 [(0, .ref h0), (1, .int 3)] := hl
  refine lv_aload_n hx hb dX4_init_0 rfl (lv_at hl 0 rfl) ?_
  refine r_objInit C hl.1 (List.mem_of_getElem? (i := 1) rfl) (List.mem_of_getElem? (i := 2) rfl) (List.mem_of_getElem? (i := 3) rfl) (rmk hR rfl rfl) dX4_init_1 ?_
  refine lv_aload_n hx hb dX4_init_4 rfl (lv_at hl 0 rfl) ?_
  refine lv_iload_n hx hb dX4_init_5 rfl (lv_at hl 1 rfl) ?_
  refine r_putF C hW (bs' := [[(h0, .inr (4, [.int 3, .null, .null]))]]) (K := RX4) (T := TX4) (N := 3) 0 0 0 rfl rfl rfl inX4_init_X4 tyX4 tyX4_ok nmX4 (by decide) (List.mem_of_getElem? (i := 4) rfl) rfl rfl hin rfl (tyX4_ok 0 (by decide)) rfl rfl (Nat.le_of_ble_eq_true rfl) dX4_init_6 rfl (fun H locs hW => ?_)
  refine lv_aload_n hx hb dX4_init_9 rfl (lv_at hl 0 rfl) ?_
  refine lv_iload_n hx hb dX4_init_10 rfl (lv_at hl 1 rfl) ?_
  refine lv_bipush (v := 16) hx hb dX4_init_11 (by decide) ?_
  refine lv_imul hx hb dX4_init_13 ?_
  refine lv_topi (fun z ez => ?_)
  obtain rfl : z = 48 := ez.trans (by decide)
  refine r_newaI C hW (n := 48) (by decide) (by decide) (Nat.le_of_ble_eq_true rfl) (List.mem_of_getElem? (i := 5) rfl) (by rw [hz.1]; exact Nat.le_of_ble_eq_true rfl) (by rw [hz.2]; exact Nat.le_of_ble_eq_true rfl) dX4_init_14 (fun q1 H hW => ?_)
  replace hW : WdG g Z s.heap H _ [[(h0, .inr (4, [.int 3, .null, .null]))], [(q1, .inl (gI g, 48, .inl (fun _ => 0)))]] := hW
  refine r_putF C hW (bs' := [[(h0, .inr (4, [.int 3, .ref q1, .null]))], [(q1, .inl (gI g, 48, .inl (fun _ => 0)))]]) (K := RX4) (T := TX4) (N := 3) 0 0 1 rfl rfl rfl inX4_init_X4 tyX4 tyX4_ok nmX4 (by decide) (List.mem_of_getElem? (i := 6) rfl) rfl rfl hin rfl (tyX4_ok 1 (by decide)) rfl rfl (Nat.le_of_ble_eq_true rfl) dX4_init_16 rfl (fun H locs hW => ?_)
  refine lv_aload_n hx hb dX4_init_19 rfl (lv_at hl 0 rfl) ?_
  refine lv_iload_n hx hb dX4_init_20 rfl (lv_at hl 1 rfl) ?_
  refine lv_bipush (v := 16) hx hb dX4_init_21 (by decide) ?_
  refine lv_imul hx hb dX4_init_23 ?_
  refine lv_topi (fun z ez => ?_)
  obtain rfl : z = 48 := ez.trans (by decide)
  refine r_newaI C hW (n := 48) (by decide) (by decide) (Nat.le_of_ble_eq_true rfl) (List.mem_of_getElem? (i := 5) rfl) (by rw [hz.1]; exact Nat.le_of_ble_eq_true rfl) (by rw [hz.2]; exact Nat.le_of_ble_eq_true rfl) dX4_init_24 (fun q2 H hW => ?_)
  replace hW : WdG g Z s.heap H _ [[(h0, .inr (4, [.int 3, .ref q1, .null]))], [(q1, .inl (gI g, 48, .inl (fun _ => 0)))], [(q2, .inl (gI g, 48, .inl (fun _ => 0)))]] := hW
  refine r_putF C hW (bs' := [[(h0, .inr (4, [.int 3, .ref q1, .ref q2]))], [(q1, .inl (gI g, 48, .inl (fun _ => 0)))], [(q2, .inl (gI g, 48, .inl (fun _ => 0)))]]) (K := RX4) (T := TX4) (N := 3) 0 0 2 rfl rfl rfl inX4_init_X4 tyX4 tyX4_ok nmX4 (by decide) (List.mem_of_getElem? (i := 7) rfl) rfl rfl hin rfl (tyX4_ok 2 (by decide)) rfl rfl (Nat.le_of_ble_eq_true rfl) dX4_init_26 rfl (fun H locs hW => ?_)
  exact E _ _ _ _ _ hW ⟨(fun i => if i < 1 then h0 else if i < 2 then q1 else q2), rfl, rfl⟩ dX4_init_29
def iX42 : TX4s := (32, 2, (fun _ => 0), (fun _ => 0))
set_option maxHeartbeats 4000000 in
set_option maxRecDepth 100000 in
theorem c_X4_init2 (l : Launch) (g : GG) (h0 : Nat) : CN l yX4_init wsX4_init 1 13 2 64 g [.ref h0, .int 2] [(h0, .inr (4, [.int 0, .null, .null]))] (fun w => ∃ A : Nat → Nat, A 0 = h0 ∧ w = wX4 g A 0 iX42) := by
  refine CN.mk (own := RX4) (by decide) rfl rfl rfl (Nat.le_of_ble_eq_true rfl) ?_
  intro p e R s m args below meth c Z Q C E hR hz hin H hW ls hl
  have hx := C.1.1
  have hb := C.1.2.1
  replace hl : lv_has ls 2 [(0, .ref h0), (1, .int 2)] := hl
  refine lv_aload_n hx hb dX4_init_0 rfl (lv_at hl 0 rfl) ?_
  refine r_objInit C hl.1 (List.mem_of_getElem? (i := 1) rfl) (List.mem_of_getElem? (i := 2) rfl) (List.mem_of_getElem? (i := 3) rfl) (rmk hR rfl rfl) dX4_init_1 ?_
  refine lv_aload_n hx hb dX4_init_4 rfl (lv_at hl 0 rfl) ?_
  refine lv_iload_n hx hb dX4_init_5 rfl (lv_at hl 1 rfl) ?_
  refine r_putF C hW (bs' := [[(h0, .inr (4, [.int 2, .null, .null]))]]) (K := RX4) (T := TX4) (N := 3) 0 0 0 rfl rfl rfl inX4_init_X4 tyX4 tyX4_ok nmX4 (by decide) (List.mem_of_getElem? (i := 4) rfl) rfl rfl hin rfl (tyX4_ok 0 (by decide)) rfl rfl (Nat.le_of_ble_eq_true rfl) dX4_init_6 rfl (fun H locs hW => ?_)
  refine lv_aload_n hx hb dX4_init_9 rfl (lv_at hl 0 rfl) ?_
  refine lv_iload_n hx hb dX4_init_10 rfl (lv_at hl 1 rfl) ?_
  refine lv_bipush (v := 16) hx hb dX4_init_11 (by decide) ?_
  refine lv_imul hx hb dX4_init_13 ?_
  refine lv_topi (fun z ez => ?_)
  obtain rfl : z = 32 := ez.trans (by decide)
  refine r_newaI C hW (n := 32) (by decide) (by decide) (Nat.le_of_ble_eq_true rfl) (List.mem_of_getElem? (i := 5) rfl) (by rw [hz.1]; exact Nat.le_of_ble_eq_true rfl) (by rw [hz.2]; exact Nat.le_of_ble_eq_true rfl) dX4_init_14 (fun q1 H hW => ?_)
  replace hW : WdG g Z s.heap H _ [[(h0, .inr (4, [.int 2, .null, .null]))], [(q1, .inl (gI g, 32, .inl (fun _ => 0)))]] := hW
  refine r_putF C hW (bs' := [[(h0, .inr (4, [.int 2, .ref q1, .null]))], [(q1, .inl (gI g, 32, .inl (fun _ => 0)))]]) (K := RX4) (T := TX4) (N := 3) 0 0 1 rfl rfl rfl inX4_init_X4 tyX4 tyX4_ok nmX4 (by decide) (List.mem_of_getElem? (i := 6) rfl) rfl rfl hin rfl (tyX4_ok 1 (by decide)) rfl rfl (Nat.le_of_ble_eq_true rfl) dX4_init_16 rfl (fun H locs hW => ?_)
  refine lv_aload_n hx hb dX4_init_19 rfl (lv_at hl 0 rfl) ?_
  refine lv_iload_n hx hb dX4_init_20 rfl (lv_at hl 1 rfl) ?_
  refine lv_bipush (v := 16) hx hb dX4_init_21 (by decide) ?_
  refine lv_imul hx hb dX4_init_23 ?_
  refine lv_topi (fun z ez => ?_)
  obtain rfl : z = 32 := ez.trans (by decide)
  refine r_newaI C hW (n := 32) (by decide) (by decide) (Nat.le_of_ble_eq_true rfl) (List.mem_of_getElem? (i := 5) rfl) (by rw [hz.1]; exact Nat.le_of_ble_eq_true rfl) (by rw [hz.2]; exact Nat.le_of_ble_eq_true rfl) dX4_init_24 (fun q2 H hW => ?_)
  replace hW : WdG g Z s.heap H _ [[(h0, .inr (4, [.int 2, .ref q1, .null]))], [(q1, .inl (gI g, 32, .inl (fun _ => 0)))], [(q2, .inl (gI g, 32, .inl (fun _ => 0)))]] := hW
  refine r_putF C hW (bs' := [[(h0, .inr (4, [.int 2, .ref q1, .ref q2]))], [(q1, .inl (gI g, 32, .inl (fun _ => 0)))], [(q2, .inl (gI g, 32, .inl (fun _ => 0)))]]) (K := RX4) (T := TX4) (N := 3) 0 0 2 rfl rfl rfl inX4_init_X4 tyX4 tyX4_ok nmX4 (by decide) (List.mem_of_getElem? (i := 7) rfl) rfl rfl hin rfl (tyX4_ok 2 (by decide)) rfl rfl (Nat.le_of_ble_eq_true rfl) dX4_init_26 rfl (fun H locs hW => ?_)
  exact E _ _ _ _ _ hW ⟨(fun i => if i < 1 then h0 else if i < 2 then q1 else q2), rfl, rfl⟩ dX4_init_29
def iX3 : TX3s := (iX43, iX43, iX42, (upd (upd (upd (fun _ => 0) (0 : Int32).toNatClampNeg 5) (1 : Int32).toNatClampNeg 5) (2 : Int32).toNatClampNeg 5), (upd (upd (fun _ => 0) (0 : Int32).toNatClampNeg 30) (1 : Int32).toNatClampNeg 12), 20, 0, 0, 0, 0)
theorem wo_X3_init : wordsOk yX3_init 0 := by decide +kernel
theorem inX3_init_X3 : ∀ w ∈ wsX30, w ∈ wsX3_init := fun _ h => List.mem_cons_of_mem _ (List.mem_append_right _ h)
theorem inX3_init_X4 : ∀ w ∈ wsX40, w ∈ wsX3_init := fun _ h => List.mem_cons_of_mem _ (List.mem_append_left _ (List.mem_append_right _ h))
set_option maxHeartbeats 4000000 in
set_option maxRecDepth 100000 in
theorem c_X3_init (l : Launch) (g : GG) (h0 : Nat) : CN l yX3_init wsX3_init 2 34 11 270 g [.ref h0] [(h0, .inr (3, [.null, .null, .null, .null, .null, .int 0, .int 0, .int 0, .int 0, .int 0]))] (fun w => ∃ A : Nat → Nat, A 0 = h0 ∧ w = wX3 g A 0 iX3) := by
  refine CN.mk (own := RX3) (by decide) rfl rfl rfl (Nat.le_of_ble_eq_true rfl) ?_
  intro p e R s m args below meth c Z Q C E hR hz hin H hW ls hl
  have hx := C.1.1
  have hb := C.1.2.1
  replace hl : lv_has ls 1 [(0, .ref h0)] := hl
  refine lv_aload_n hx hb dX3_init_0 rfl (lv_at hl 0 rfl) ?_
  refine r_objInit C hl.1 (List.mem_of_getElem? (i := 1) rfl) (List.mem_of_getElem? (i := 2) rfl) (List.mem_of_getElem? (i := 3) rfl) (rmk hR rfl rfl) dX3_init_1 ?_
  refine lv_aload_n hx hb dX3_init_4 rfl (lv_at hl 0 rfl) ?_
  refine r_new C hW (K := RX4) (T := TX4) (N := 3) (ci := 4) (fs := [.int 0, .null, .null]) rfl inX3_init_X4 tyX4 tyX4_ok (List.mem_of_getElem? (i := 4) rfl) (List.mem_of_getElem? (i := 5) rfl) (List.mem_of_getElem? (i := 6) rfl) (by intro j hj; match j, hj with | 0, _ => exact rfl | 1, _ => exact rfl | 2, _ => exact rfl | (j + 3), hj => exact absurd hj (by omega)) (by rw [hz.1]; exact Nat.le_of_ble_eq_true rfl) (by rw [hz.2]; exact Nat.le_of_ble_eq_true rfl) dX3_init_5 (fun q1 H hW => ?_)
  replace hW : WdG g Z s.heap H _ [[(h0, .inr (3, [.null, .null, .null, .null, .null, .int 0, .int 0, .int 0, .int 0, .int 0]))], [(q1, .inr (4, [.int 0, .null, .null]))]] := hW
  refine lv_dup hx hb dX3_init_8 rfl ?_
  refine lv_iconst (v := 3) hx hb dX3_init_9 (by decide) ?_
  refine r_cI C hW (nA := 1) (As := [.int 3]) (rest := [.ref q1, .ref h0]) (n := 2) (is := [1]) (rs := [0]) (fun w => [[(h0, .inr (3, [.null, .null, .null, .null, .null, .int 0, .int 0, .int 0, .int 0, .int 0]))], w]) (c_X4_init3 l g q1) gX3_init_X4_init rfl (List.mem_of_getElem? (i := 6) rfl) (List.mem_of_getElem? (i := 14) rfl) (List.mem_of_getElem? (i := 15) rfl) rfl wo_X4_init (rmk hR rfl rfl) rfl rfl hl.1 (Nat.le_of_ble_eq_true rfl) ⟨by rw [hz.1]; exact Nat.le_of_ble_eq_true rfl, by rw [hz.2]; exact Nat.le_of_ble_eq_true rfl⟩ dX3_init_10 rfl (fun _ => rfl) (by decide) rfl (fun w => List.append_nil w) (fun _ => rfl) (fun w2 H locs hw2 hWn => ?_)
  clear hW
  obtain ⟨A2, ea2, rfl⟩ := hw2
  subst ea2
  have hW := hWn
  clear hWn
  refine r_putF C hW (bs' := [[(h0, .inr (3, [.ref (A2 0), .null, .null, .null, .null, .int 0, .int 0, .int 0, .int 0, .int 0]))], wX4 g A2 0 iX43]) (K := RX3) (T := TX3) (N := 10) 0 0 0 rfl rfl rfl inX3_init_X3 tyX3 tyX3_ok nmX3 (by decide) (List.mem_of_getElem? (i := 7) rfl) rfl rfl hin rfl (tyX3_ok 0 (by decide)) rfl rfl (Nat.le_of_ble_eq_true rfl) dX3_init_13 rfl (fun H locs hW => ?_)
  refine lv_aload_n hx hb dX3_init_16 rfl (lv_at hl 0 rfl) ?_
  refine r_new C hW (K := RX4) (T := TX4) (N := 3) (ci := 4) (fs := [.int 0, .null, .null]) rfl inX3_init_X4 tyX4 tyX4_ok (List.mem_of_getElem? (i := 4) rfl) (List.mem_of_getElem? (i := 5) rfl) (List.mem_of_getElem? (i := 6) rfl) (by intro j hj; match j, hj with | 0, _ => exact rfl | 1, _ => exact rfl | 2, _ => exact rfl | (j + 3), hj => exact absurd hj (by omega)) (by rw [hz.1]; exact Nat.le_of_ble_eq_true rfl) (by rw [hz.2]; exact Nat.le_of_ble_eq_true rfl) dX3_init_17 (fun q3 H hW => ?_)
  replace hW : WdG g Z s.heap H _ [[(h0, .inr (3, [.ref (A2 0), .null, .null, .null, .null, .int 0, .int 0, .int 0, .int 0, .int 0]))], wX4 g A2 0 iX43, [(q3, .inr (4, [.int 0, .null, .null]))]] := hW
  refine lv_dup hx hb dX3_init_20 rfl ?_
  refine lv_iconst (v := 3) hx hb dX3_init_21 (by decide) ?_
  refine r_cI C hW (nA := 1) (As := [.int 3]) (rest := [.ref q3, .ref h0]) (n := 3) (is := [2]) (rs := [0, 1]) (fun w => [[(h0, .inr (3, [.ref (A2 0), .null, .null, .null, .null, .int 0, .int 0, .int 0, .int 0, .int 0]))], wX4 g A2 0 iX43, w]) (c_X4_init3 l g q3) gX3_init_X4_init rfl (List.mem_of_getElem? (i := 6) rfl) (List.mem_of_getElem? (i := 14) rfl) (List.mem_of_getElem? (i := 15) rfl) rfl wo_X4_init (rmk hR rfl rfl) rfl rfl hl.1 (Nat.le_of_ble_eq_true rfl) ⟨by rw [hz.1]; exact Nat.le_of_ble_eq_true rfl, by rw [hz.2]; exact Nat.le_of_ble_eq_true rfl⟩ dX3_init_22 rfl (fun _ => rfl) (by decide) rfl (fun w => List.append_nil w) (fun _ => rfl) (fun w4 H locs hw4 hWn => ?_)
  clear hW
  obtain ⟨A4, ea4, rfl⟩ := hw4
  subst ea4
  have hW := hWn
  clear hWn
  refine r_putF C hW (bs' := [[(h0, .inr (3, [.ref (A2 0), .ref (A4 0), .null, .null, .null, .int 0, .int 0, .int 0, .int 0, .int 0]))], wX4 g A2 0 iX43, wX4 g A4 0 iX43]) (K := RX3) (T := TX3) (N := 10) 0 0 1 rfl rfl rfl inX3_init_X3 tyX3 tyX3_ok nmX3 (by decide) (List.mem_of_getElem? (i := 8) rfl) rfl rfl hin rfl (tyX3_ok 1 (by decide)) rfl rfl (Nat.le_of_ble_eq_true rfl) dX3_init_25 rfl (fun H locs hW => ?_)
  refine lv_aload_n hx hb dX3_init_28 rfl (lv_at hl 0 rfl) ?_
  refine r_new C hW (K := RX4) (T := TX4) (N := 3) (ci := 4) (fs := [.int 0, .null, .null]) rfl inX3_init_X4 tyX4 tyX4_ok (List.mem_of_getElem? (i := 4) rfl) (List.mem_of_getElem? (i := 5) rfl) (List.mem_of_getElem? (i := 6) rfl) (by intro j hj; match j, hj with | 0, _ => exact rfl | 1, _ => exact rfl | 2, _ => exact rfl | (j + 3), hj => exact absurd hj (by omega)) (by rw [hz.1]; exact Nat.le_of_ble_eq_true rfl) (by rw [hz.2]; exact Nat.le_of_ble_eq_true rfl) dX3_init_29 (fun q5 H hW => ?_)
  replace hW : WdG g Z s.heap H _ [[(h0, .inr (3, [.ref (A2 0), .ref (A4 0), .null, .null, .null, .int 0, .int 0, .int 0, .int 0, .int 0]))], wX4 g A2 0 iX43, wX4 g A4 0 iX43, [(q5, .inr (4, [.int 0, .null, .null]))]] := hW
  refine lv_dup hx hb dX3_init_32 rfl ?_
  refine lv_iconst (v := 2) hx hb dX3_init_33 (by decide) ?_
  refine r_cI C hW (nA := 1) (As := [.int 2]) (rest := [.ref q5, .ref h0]) (n := 4) (is := [3]) (rs := [0, 1, 2]) (fun w => [[(h0, .inr (3, [.ref (A2 0), .ref (A4 0), .null, .null, .null, .int 0, .int 0, .int 0, .int 0, .int 0]))], wX4 g A2 0 iX43, wX4 g A4 0 iX43, w]) (c_X4_init2 l g q5) gX3_init_X4_init rfl (List.mem_of_getElem? (i := 6) rfl) (List.mem_of_getElem? (i := 14) rfl) (List.mem_of_getElem? (i := 15) rfl) rfl wo_X4_init (rmk hR rfl rfl) rfl rfl hl.1 (Nat.le_of_ble_eq_true rfl) ⟨by rw [hz.1]; exact Nat.le_of_ble_eq_true rfl, by rw [hz.2]; exact Nat.le_of_ble_eq_true rfl⟩ dX3_init_34 rfl (fun _ => rfl) (by decide) rfl (fun w => List.append_nil w) (fun _ => rfl) (fun w6 H locs hw6 hWn => ?_)
  clear hW
  obtain ⟨A6, ea6, rfl⟩ := hw6
  subst ea6
  have hW := hWn
  clear hWn
  refine r_putF C hW (bs' := [[(h0, .inr (3, [.ref (A2 0), .ref (A4 0), .ref (A6 0), .null, .null, .int 0, .int 0, .int 0, .int 0, .int 0]))], wX4 g A2 0 iX43, wX4 g A4 0 iX43, wX4 g A6 0 iX42]) (K := RX3) (T := TX3) (N := 10) 0 0 2 rfl rfl rfl inX3_init_X3 tyX3 tyX3_ok nmX3 (by decide) (List.mem_of_getElem? (i := 9) rfl) rfl rfl hin rfl (tyX3_ok 2 (by decide)) rfl rfl (Nat.le_of_ble_eq_true rfl) dX3_init_37 rfl (fun H locs hW => ?_)
  refine lv_aload_n hx hb dX3_init_40 rfl (lv_at hl 0 rfl) ?_
  refine lv_iconst (v := 3) hx hb dX3_init_41 (by decide) ?_
  refine r_newaI C hW (n := 3) (by decide) (by decide) (Nat.le_of_ble_eq_true rfl) (List.mem_of_getElem? (i := 10) rfl) (by rw [hz.1]; exact Nat.le_of_ble_eq_true rfl) (by rw [hz.2]; exact Nat.le_of_ble_eq_true rfl) dX3_init_42 (fun q7 H hW => ?_)
  replace hW : WdG g Z s.heap H _ [[(h0, .inr (3, [.ref (A2 0), .ref (A4 0), .ref (A6 0), .null, .null, .int 0, .int 0, .int 0, .int 0, .int 0]))], wX4 g A2 0 iX43, wX4 g A4 0 iX43, wX4 g A6 0 iX42, [(q7, .inl (gI g, 3, .inl (fun _ => 0)))]] := hW
  refine lv_dup hx hb dX3_init_44 rfl ?_
  refine lv_iconst (v := 0) hx hb dX3_init_45 (by decide) ?_
  refine lv_iconst (v := 5) hx hb dX3_init_46 (by decide) ?_
  refine r_iast C hW (x := 0) (bs' := [[(h0, .inr (3, [.ref (A2 0), .ref (A4 0), .ref (A6 0), .null, .null, .int 0, .int 0, .int 0, .int 0, .int 0]))], wX4 g A2 0 iX43, wX4 g A4 0 iX43, wX4 g A6 0 iX42, [(q7, .inl (gI g, 3, .inl (upd (fun _ => 0) (0 : Int32).toNatClampNeg 5)))]]) 4 0 rfl rfl (show ¬ ((0 : Int32) < 0 ∨ 3 ≤ (0 : Int32).toNatClampNeg) by decide) dX3_init_47 rfl (fun H locs hW => ?_)
  refine lv_dup hx hb dX3_init_48 rfl ?_
  refine lv_iconst (v := 1) hx hb dX3_init_49 (by decide) ?_
  refine lv_iconst (v := 5) hx hb dX3_init_50 (by decide) ?_
  refine r_iast C hW (x := 1) (bs' := [[(h0, .inr (3, [.ref (A2 0), .ref (A4 0), .ref (A6 0), .null, .null, .int 0, .int 0, .int 0, .int 0, .int 0]))], wX4 g A2 0 iX43, wX4 g A4 0 iX43, wX4 g A6 0 iX42, [(q7, .inl (gI g, 3, .inl (upd (upd (fun _ => 0) (0 : Int32).toNatClampNeg 5) (1 : Int32).toNatClampNeg 5)))]]) 4 0 rfl rfl (show ¬ ((1 : Int32) < 0 ∨ 3 ≤ (1 : Int32).toNatClampNeg) by decide) dX3_init_51 rfl (fun H locs hW => ?_)
  refine lv_dup hx hb dX3_init_52 rfl ?_
  refine lv_iconst (v := 2) hx hb dX3_init_53 (by decide) ?_
  refine lv_iconst (v := 5) hx hb dX3_init_54 (by decide) ?_
  refine r_iast C hW (x := 2) (bs' := [[(h0, .inr (3, [.ref (A2 0), .ref (A4 0), .ref (A6 0), .null, .null, .int 0, .int 0, .int 0, .int 0, .int 0]))], wX4 g A2 0 iX43, wX4 g A4 0 iX43, wX4 g A6 0 iX42, [(q7, .inl (gI g, 3, .inl (upd (upd (upd (fun _ => 0) (0 : Int32).toNatClampNeg 5) (1 : Int32).toNatClampNeg 5) (2 : Int32).toNatClampNeg 5)))]]) 4 0 rfl rfl (show ¬ ((2 : Int32) < 0 ∨ 3 ≤ (2 : Int32).toNatClampNeg) by decide) dX3_init_55 rfl (fun H locs hW => ?_)
  refine r_putF C hW (bs' := [[(h0, .inr (3, [.ref (A2 0), .ref (A4 0), .ref (A6 0), .ref q7, .null, .int 0, .int 0, .int 0, .int 0, .int 0]))], wX4 g A2 0 iX43, wX4 g A4 0 iX43, wX4 g A6 0 iX42, [(q7, .inl (gI g, 3, .inl (upd (upd (upd (fun _ => 0) (0 : Int32).toNatClampNeg 5) (1 : Int32).toNatClampNeg 5) (2 : Int32).toNatClampNeg 5)))]]) (K := RX3) (T := TX3) (N := 10) 0 0 3 rfl rfl rfl inX3_init_X3 tyX3 tyX3_ok nmX3 (by decide) (List.mem_of_getElem? (i := 11) rfl) rfl rfl hin rfl (tyX3_ok 3 (by decide)) rfl rfl (Nat.le_of_ble_eq_true rfl) dX3_init_56 rfl (fun H locs hW => ?_)
  refine lv_aload_n hx hb dX3_init_59 rfl (lv_at hl 0 rfl) ?_
  refine lv_iconst (v := 2) hx hb dX3_init_60 (by decide) ?_
  refine r_newaI C hW (n := 2) (by decide) (by decide) (Nat.le_of_ble_eq_true rfl) (List.mem_of_getElem? (i := 10) rfl) (by rw [hz.1]; exact Nat.le_of_ble_eq_true rfl) (by rw [hz.2]; exact Nat.le_of_ble_eq_true rfl) dX3_init_61 (fun q8 H hW => ?_)
  replace hW : WdG g Z s.heap H _ [[(h0, .inr (3, [.ref (A2 0), .ref (A4 0), .ref (A6 0), .ref q7, .null, .int 0, .int 0, .int 0, .int 0, .int 0]))], wX4 g A2 0 iX43, wX4 g A4 0 iX43, wX4 g A6 0 iX42, [(q7, .inl (gI g, 3, .inl (upd (upd (upd (fun _ => 0) (0 : Int32).toNatClampNeg 5) (1 : Int32).toNatClampNeg 5) (2 : Int32).toNatClampNeg 5)))], [(q8, .inl (gI g, 2, .inl (fun _ => 0)))]] := hW
  refine lv_dup hx hb dX3_init_63 rfl ?_
  refine lv_iconst (v := 0) hx hb dX3_init_64 (by decide) ?_
  refine lv_bipush (v := 30) hx hb dX3_init_65 (by decide) ?_
  refine r_iast C hW (x := 0) (bs' := [[(h0, .inr (3, [.ref (A2 0), .ref (A4 0), .ref (A6 0), .ref q7, .null, .int 0, .int 0, .int 0, .int 0, .int 0]))], wX4 g A2 0 iX43, wX4 g A4 0 iX43, wX4 g A6 0 iX42, [(q7, .inl (gI g, 3, .inl (upd (upd (upd (fun _ => 0) (0 : Int32).toNatClampNeg 5) (1 : Int32).toNatClampNeg 5) (2 : Int32).toNatClampNeg 5)))], [(q8, .inl (gI g, 2, .inl (upd (fun _ => 0) (0 : Int32).toNatClampNeg 30)))]]) 5 0 rfl rfl (show ¬ ((0 : Int32) < 0 ∨ 2 ≤ (0 : Int32).toNatClampNeg) by decide) dX3_init_67 rfl (fun H locs hW => ?_)
  refine lv_dup hx hb dX3_init_68 rfl ?_
  refine lv_iconst (v := 1) hx hb dX3_init_69 (by decide) ?_
  refine lv_bipush (v := 12) hx hb dX3_init_70 (by decide) ?_
  refine r_iast C hW (x := 1) (bs' := [[(h0, .inr (3, [.ref (A2 0), .ref (A4 0), .ref (A6 0), .ref q7, .null, .int 0, .int 0, .int 0, .int 0, .int 0]))], wX4 g A2 0 iX43, wX4 g A4 0 iX43, wX4 g A6 0 iX42, [(q7, .inl (gI g, 3, .inl (upd (upd (upd (fun _ => 0) (0 : Int32).toNatClampNeg 5) (1 : Int32).toNatClampNeg 5) (2 : Int32).toNatClampNeg 5)))], [(q8, .inl (gI g, 2, .inl (upd (upd (fun _ => 0) (0 : Int32).toNatClampNeg 30) (1 : Int32).toNatClampNeg 12)))]]) 5 0 rfl rfl (show ¬ ((1 : Int32) < 0 ∨ 2 ≤ (1 : Int32).toNatClampNeg) by decide) dX3_init_72 rfl (fun H locs hW => ?_)
  refine r_putF C hW (bs' := [[(h0, .inr (3, [.ref (A2 0), .ref (A4 0), .ref (A6 0), .ref q7, .ref q8, .int 0, .int 0, .int 0, .int 0, .int 0]))], wX4 g A2 0 iX43, wX4 g A4 0 iX43, wX4 g A6 0 iX42, [(q7, .inl (gI g, 3, .inl (upd (upd (upd (fun _ => 0) (0 : Int32).toNatClampNeg 5) (1 : Int32).toNatClampNeg 5) (2 : Int32).toNatClampNeg 5)))], [(q8, .inl (gI g, 2, .inl (upd (upd (fun _ => 0) (0 : Int32).toNatClampNeg 30) (1 : Int32).toNatClampNeg 12)))]]) (K := RX3) (T := TX3) (N := 10) 0 0 4 rfl rfl rfl inX3_init_X3 tyX3 tyX3_ok nmX3 (by decide) (List.mem_of_getElem? (i := 12) rfl) rfl rfl hin rfl (tyX3_ok 4 (by decide)) rfl rfl (Nat.le_of_ble_eq_true rfl) dX3_init_73 rfl (fun H locs hW => ?_)
  refine lv_aload_n hx hb dX3_init_76 rfl (lv_at hl 0 rfl) ?_
  refine lv_bipush (v := 20) hx hb dX3_init_77 (by decide) ?_
  refine r_put C hW (bs' := [[(h0, .inr (3, [.ref (A2 0), .ref (A4 0), .ref (A6 0), .ref q7, .ref q8, .int 20, .int 0, .int 0, .int 0, .int 0]))], wX4 g A2 0 iX43, wX4 g A4 0 iX43, wX4 g A6 0 iX42, [(q7, .inl (gI g, 3, .inl (upd (upd (upd (fun _ => 0) (0 : Int32).toNatClampNeg 5) (1 : Int32).toNatClampNeg 5) (2 : Int32).toNatClampNeg 5)))], [(q8, .inl (gI g, 2, .inl (upd (upd (fun _ => 0) (0 : Int32).toNatClampNeg 30) (1 : Int32).toNatClampNeg 12)))]]) (K := RX3) (T := TX3) (N := 10) 0 0 5 rfl rfl rfl inX3_init_X3 tyX3 tyX3_ok nmX3 (by decide) (List.mem_of_getElem? (i := 13) rfl) rfl rfl (tyX3_ok 5 (by decide)) rfl rfl (Nat.le_of_ble_eq_true rfl) dX3_init_79 rfl (fun H locs hW => ?_)
  exact E _ _ _ _ _ hW ⟨(fun i => if i < 1 then h0 else if i < 4 then A2 (i - 1) else if i < 7 then A4 (i - 4) else if i < 10 then A6 (i - 7) else if i < 11 then q7 else q8), rfl, rfl⟩ dX3_init_82
def iX1 : TX1s := ((fun _ => iX3), 0, 0)
theorem wo_X1_init : wordsOk yX1_init 0 := by decide +kernel
theorem inX1_init_X1 : ∀ w ∈ wsX10, w ∈ wsX1_init := fun _ h => List.mem_cons_of_mem _ (List.mem_append_left _ (List.mem_append_left _ (List.mem_append_right _ h)))
theorem inX1_init_X3 : ∀ w ∈ wsX30, w ∈ wsX1_init := fun _ h => List.mem_cons_of_mem _ (List.mem_append_left _ (List.mem_append_right _ h))
set_option maxHeartbeats 4000000 in
set_option maxRecDepth 100000 in
theorem c_X1_init (l : Launch) (g : GG) (h0 : Nat) : CN l yX1_init wsX1_init 3 54 61 1405 g [.ref h0] [(h0, .inr (1, [.null, .int 0, .int 0]))] (fun w => ∃ A : Nat → Nat, A 0 = h0 ∧ w = wX1 g A 0 iX1) := by
  refine CN.mk (own := RX1) (by decide) rfl rfl rfl (Nat.le_of_ble_eq_true rfl) ?_
  intro p e R s m args below meth c Z Q C E hR hz hin H hW ls hl
  have hx := C.1.1
  have hb := C.1.2.1
  replace hl : lv_has ls 2 [(0, .ref h0)] := hl
  refine lv_aload_n hx hb dX1_init_0 rfl (lv_at hl 0 rfl) ?_
  refine r_objInit C hl.1 (List.mem_of_getElem? (i := 1) rfl) (List.mem_of_getElem? (i := 2) rfl) (List.mem_of_getElem? (i := 3) rfl) (rmk hR rfl rfl) dX1_init_1 ?_
  refine lv_aload_n hx hb dX1_init_4 rfl (lv_at hl 0 rfl) ?_
  refine lv_iconst (v := 5) hx hb dX1_init_5 (by decide) ?_
  refine r_newaR C hW (n := 5) (by decide) (by decide) (Nat.le_of_ble_eq_true rfl) (List.mem_of_getElem? (i := 4) rfl) (by rw [hz.1]; exact Nat.le_of_ble_eq_true rfl) (by rw [hz.2]; exact Nat.le_of_ble_eq_true rfl) dX1_init_6 (fun q1 H hW => ?_)
  replace hW : WdG g Z s.heap H _ [[(h0, .inr (1, [.null, .int 0, .int 0]))], [(q1, .inl (gR g, 5, .inr (.inr (.inr (.inr (fun _ => none))))))]] := hW
  refine r_putF C hW (bs' := [[(h0, .inr (1, [.ref q1, .int 0, .int 0]))], [(q1, .inl (gR g, 5, .inr (.inr (.inr (.inr (fun _ => none))))))]]) (K := RX1) (T := TX1) (N := 3) 0 0 0 rfl rfl rfl inX1_init_X1 tyX1 tyX1_ok nmX1 (by decide) (List.mem_of_getElem? (i := 5) rfl) rfl rfl hin rfl (tyX1_ok 0 (by decide)) rfl rfl (Nat.le_of_ble_eq_true rfl) dX1_init_9 rfl (fun H locs hW => ?_)
  refine lv_iconst (v := 0) hx hb dX1_init_12 (by decide) ?_
  refine lv_istore_n (lv' := [(1, .int 0), (0, .ref h0)]) hx hb dX1_init_13 rfl hl (by decide) rfl (fun ls hl => ?_)
  refine lv_iload_n hx hb dX1_init_14 rfl (lv_at hl 0 rfl) ?_
  refine lv_iconst (v := 5) hx hb dX1_init_15 (by decide) ?_
  refine lv_icmp_ge (tgt := 38) hx hb dX1_init_16 (by decide) (fun e => absurd e (by decide)) (fun _ => ?_)
  refine lv_aload_n hx hb dX1_init_19 rfl (lv_at hl 1 rfl) ?_
  refine r_get C hW (K := RX1) (T := TX1) (N := 3) (v := .ref q1) 0 0 0 rfl rfl rfl inX1_init_X1 (by decide) (List.mem_of_getElem? (i := 5) rfl) rfl rfl dX1_init_20 ?_
  refine lv_iload_n hx hb dX1_init_23 rfl (lv_at hl 0 rfl) ?_
  refine r_new C hW (K := RX3) (T := TX3) (N := 10) (ci := 3) (fs := [.null, .null, .null, .null, .null, .int 0, .int 0, .int 0, .int 0, .int 0]) rfl inX1_init_X3 tyX3 tyX3_ok (List.mem_of_getElem? (i := 4) rfl) (List.mem_of_getElem? (i := 6) rfl) (List.mem_of_getElem? (i := 7) rfl) (by intro j hj; match j, hj with | 0, _ => exact rfl | 1, _ => exact rfl | 2, _ => exact rfl | 3, _ => exact rfl | 4, _ => exact rfl | 5, _ => exact rfl | 6, _ => exact rfl | 7, _ => exact rfl | 8, _ => exact rfl | 9, _ => exact rfl | (j + 10), hj => exact absurd hj (by omega)) (by rw [hz.1]; exact Nat.le_of_ble_eq_true rfl) (by rw [hz.2]; exact Nat.le_of_ble_eq_true rfl) dX1_init_24 (fun q2 H hW => ?_)
  replace hW : WdG g Z s.heap H _ [[(h0, .inr (1, [.ref q1, .int 0, .int 0]))], [(q1, .inl (gR g, 5, .inr (.inr (.inr (.inr (fun _ => none))))))], [(q2, .inr (3, [.null, .null, .null, .null, .null, .int 0, .int 0, .int 0, .int 0, .int 0]))]] := hW
  refine lv_dup hx hb dX1_init_27 rfl ?_
  refine r_cI C hW (nA := 0) (As := []) (rest := [.ref q2, .int 0, .ref q1]) (n := 3) (is := [2]) (rs := [0, 1]) (fun w => [[(h0, .inr (1, [.ref q1, .int 0, .int 0]))], [(q1, .inl (gR g, 5, .inr (.inr (.inr (.inr (fun _ => none))))))], w]) (c_X3_init l g q2) gX1_init_X3_init rfl (List.mem_of_getElem? (i := 7) rfl) (List.mem_of_getElem? (i := 8) rfl) (List.mem_of_getElem? (i := 9) rfl) rfl wo_X3_init (rmk hR rfl rfl) rfl rfl hl.1 (Nat.le_of_ble_eq_true rfl) ⟨by rw [hz.1]; exact Nat.le_of_ble_eq_true rfl, by rw [hz.2]; exact Nat.le_of_ble_eq_true rfl⟩ dX1_init_28 rfl (fun _ => rfl) (by decide) rfl (fun w => List.append_nil w) (fun _ => rfl) (fun w3 H locs hw3 hWn => ?_)
  clear hW
  obtain ⟨A3, ea3, rfl⟩ := hw3
  subst ea3
  have hW := hWn
  clear hWn
  refine r_aast C hW (x := 0) (bs' := [[(h0, .inr (1, [.ref q1, .int 0, .int 0]))], [(q1, .inl (gR g, 5, .inr (.inr (.inr (.inr (va_up (fun _ => none) (0 : Int32).toNatClampNeg (some (A3 0))))))))], wX3 g A3 0 iX3]) 1 0 2 0 rfl rfl rfl rfl (show ¬ ((0 : Int32) < 0 ∨ 5 ≤ (0 : Int32).toNatClampNeg) by decide) dX1_init_31 rfl (fun H locs hW => ?_)
  refine lv_iinc (v := 1) (lv' := [(1, .int 1), (0, .ref h0)]) hx hb dX1_init_32 hl (k := 0) rfl (by decide) (by decide) rfl (fun ls hl => ?_)
  refine lv_goto (tgt := 14) hx hb dX1_init_35 (by decide) ?_
  refine lv_iload_n hx hb dX1_init_14 rfl (lv_at hl 0 rfl) ?_
  refine lv_iconst (v := 5) hx hb dX1_init_15 (by decide) ?_
  refine lv_icmp_ge (tgt := 38) hx hb dX1_init_16 (by decide) (fun e => absurd e (by decide)) (fun _ => ?_)
  refine lv_aload_n hx hb dX1_init_19 rfl (lv_at hl 1 rfl) ?_
  refine r_get C hW (K := RX1) (T := TX1) (N := 3) (v := .ref q1) 0 0 0 rfl rfl rfl inX1_init_X1 (by decide) (List.mem_of_getElem? (i := 5) rfl) rfl rfl dX1_init_20 ?_
  refine lv_iload_n hx hb dX1_init_23 rfl (lv_at hl 0 rfl) ?_
  refine r_new C hW (K := RX3) (T := TX3) (N := 10) (ci := 3) (fs := [.null, .null, .null, .null, .null, .int 0, .int 0, .int 0, .int 0, .int 0]) rfl inX1_init_X3 tyX3 tyX3_ok (List.mem_of_getElem? (i := 4) rfl) (List.mem_of_getElem? (i := 6) rfl) (List.mem_of_getElem? (i := 7) rfl) (by intro j hj; match j, hj with | 0, _ => exact rfl | 1, _ => exact rfl | 2, _ => exact rfl | 3, _ => exact rfl | 4, _ => exact rfl | 5, _ => exact rfl | 6, _ => exact rfl | 7, _ => exact rfl | 8, _ => exact rfl | 9, _ => exact rfl | (j + 10), hj => exact absurd hj (by omega)) (by rw [hz.1]; exact Nat.le_of_ble_eq_true rfl) (by rw [hz.2]; exact Nat.le_of_ble_eq_true rfl) dX1_init_24 (fun q4 H hW => ?_)
  replace hW : WdG g Z s.heap H _ [[(h0, .inr (1, [.ref q1, .int 0, .int 0]))], [(q1, .inl (gR g, 5, .inr (.inr (.inr (.inr (va_up (fun _ => none) (0 : Int32).toNatClampNeg (some (A3 0))))))))], wX3 g A3 0 iX3, [(q4, .inr (3, [.null, .null, .null, .null, .null, .int 0, .int 0, .int 0, .int 0, .int 0]))]] := hW
  refine lv_dup hx hb dX1_init_27 rfl ?_
  refine r_cI C hW (nA := 0) (As := []) (rest := [.ref q4, .int 1, .ref q1]) (n := 4) (is := [3]) (rs := [0, 1, 2]) (fun w => [[(h0, .inr (1, [.ref q1, .int 0, .int 0]))], [(q1, .inl (gR g, 5, .inr (.inr (.inr (.inr (va_up (fun _ => none) (0 : Int32).toNatClampNeg (some (A3 0))))))))], wX3 g A3 0 iX3, w]) (c_X3_init l g q4) gX1_init_X3_init rfl (List.mem_of_getElem? (i := 7) rfl) (List.mem_of_getElem? (i := 8) rfl) (List.mem_of_getElem? (i := 9) rfl) rfl wo_X3_init (rmk hR rfl rfl) rfl rfl hl.1 (Nat.le_of_ble_eq_true rfl) ⟨by rw [hz.1]; exact Nat.le_of_ble_eq_true rfl, by rw [hz.2]; exact Nat.le_of_ble_eq_true rfl⟩ dX1_init_28 rfl (fun _ => rfl) (by decide) rfl (fun w => List.append_nil w) (fun _ => rfl) (fun w5 H locs hw5 hWn => ?_)
  clear hW
  obtain ⟨A5, ea5, rfl⟩ := hw5
  subst ea5
  have hW := hWn
  clear hWn
  refine r_aast C hW (x := 1) (bs' := [[(h0, .inr (1, [.ref q1, .int 0, .int 0]))], [(q1, .inl (gR g, 5, .inr (.inr (.inr (.inr (va_up (va_up (fun _ => none) (0 : Int32).toNatClampNeg (some (A3 0))) (1 : Int32).toNatClampNeg (some (A5 0))))))))], wX3 g A3 0 iX3, wX3 g A5 0 iX3]) 1 0 3 0 rfl rfl rfl rfl (show ¬ ((1 : Int32) < 0 ∨ 5 ≤ (1 : Int32).toNatClampNeg) by decide) dX1_init_31 rfl (fun H locs hW => ?_)
  refine lv_iinc (v := 2) (lv' := [(1, .int 2), (0, .ref h0)]) hx hb dX1_init_32 hl (k := 0) rfl (by decide) (by decide) rfl (fun ls hl => ?_)
  refine lv_goto (tgt := 14) hx hb dX1_init_35 (by decide) ?_
  refine lv_iload_n hx hb dX1_init_14 rfl (lv_at hl 0 rfl) ?_
  refine lv_iconst (v := 5) hx hb dX1_init_15 (by decide) ?_
  refine lv_icmp_ge (tgt := 38) hx hb dX1_init_16 (by decide) (fun e => absurd e (by decide)) (fun _ => ?_)
  refine lv_aload_n hx hb dX1_init_19 rfl (lv_at hl 1 rfl) ?_
  refine r_get C hW (K := RX1) (T := TX1) (N := 3) (v := .ref q1) 0 0 0 rfl rfl rfl inX1_init_X1 (by decide) (List.mem_of_getElem? (i := 5) rfl) rfl rfl dX1_init_20 ?_
  refine lv_iload_n hx hb dX1_init_23 rfl (lv_at hl 0 rfl) ?_
  refine r_new C hW (K := RX3) (T := TX3) (N := 10) (ci := 3) (fs := [.null, .null, .null, .null, .null, .int 0, .int 0, .int 0, .int 0, .int 0]) rfl inX1_init_X3 tyX3 tyX3_ok (List.mem_of_getElem? (i := 4) rfl) (List.mem_of_getElem? (i := 6) rfl) (List.mem_of_getElem? (i := 7) rfl) (by intro j hj; match j, hj with | 0, _ => exact rfl | 1, _ => exact rfl | 2, _ => exact rfl | 3, _ => exact rfl | 4, _ => exact rfl | 5, _ => exact rfl | 6, _ => exact rfl | 7, _ => exact rfl | 8, _ => exact rfl | 9, _ => exact rfl | (j + 10), hj => exact absurd hj (by omega)) (by rw [hz.1]; exact Nat.le_of_ble_eq_true rfl) (by rw [hz.2]; exact Nat.le_of_ble_eq_true rfl) dX1_init_24 (fun q6 H hW => ?_)
  replace hW : WdG g Z s.heap H _ [[(h0, .inr (1, [.ref q1, .int 0, .int 0]))], [(q1, .inl (gR g, 5, .inr (.inr (.inr (.inr (va_up (va_up (fun _ => none) (0 : Int32).toNatClampNeg (some (A3 0))) (1 : Int32).toNatClampNeg (some (A5 0))))))))], wX3 g A3 0 iX3, wX3 g A5 0 iX3, [(q6, .inr (3, [.null, .null, .null, .null, .null, .int 0, .int 0, .int 0, .int 0, .int 0]))]] := hW
  refine lv_dup hx hb dX1_init_27 rfl ?_
  refine r_cI C hW (nA := 0) (As := []) (rest := [.ref q6, .int 2, .ref q1]) (n := 5) (is := [4]) (rs := [0, 1, 2, 3]) (fun w => [[(h0, .inr (1, [.ref q1, .int 0, .int 0]))], [(q1, .inl (gR g, 5, .inr (.inr (.inr (.inr (va_up (va_up (fun _ => none) (0 : Int32).toNatClampNeg (some (A3 0))) (1 : Int32).toNatClampNeg (some (A5 0))))))))], wX3 g A3 0 iX3, wX3 g A5 0 iX3, w]) (c_X3_init l g q6) gX1_init_X3_init rfl (List.mem_of_getElem? (i := 7) rfl) (List.mem_of_getElem? (i := 8) rfl) (List.mem_of_getElem? (i := 9) rfl) rfl wo_X3_init (rmk hR rfl rfl) rfl rfl hl.1 (Nat.le_of_ble_eq_true rfl) ⟨by rw [hz.1]; exact Nat.le_of_ble_eq_true rfl, by rw [hz.2]; exact Nat.le_of_ble_eq_true rfl⟩ dX1_init_28 rfl (fun _ => rfl) (by decide) rfl (fun w => List.append_nil w) (fun _ => rfl) (fun w7 H locs hw7 hWn => ?_)
  clear hW
  obtain ⟨A7, ea7, rfl⟩ := hw7
  subst ea7
  have hW := hWn
  clear hWn
  refine r_aast C hW (x := 2) (bs' := [[(h0, .inr (1, [.ref q1, .int 0, .int 0]))], [(q1, .inl (gR g, 5, .inr (.inr (.inr (.inr (va_up (va_up (va_up (fun _ => none) (0 : Int32).toNatClampNeg (some (A3 0))) (1 : Int32).toNatClampNeg (some (A5 0))) (2 : Int32).toNatClampNeg (some (A7 0))))))))], wX3 g A3 0 iX3, wX3 g A5 0 iX3, wX3 g A7 0 iX3]) 1 0 4 0 rfl rfl rfl rfl (show ¬ ((2 : Int32) < 0 ∨ 5 ≤ (2 : Int32).toNatClampNeg) by decide) dX1_init_31 rfl (fun H locs hW => ?_)
  refine lv_iinc (v := 3) (lv' := [(1, .int 3), (0, .ref h0)]) hx hb dX1_init_32 hl (k := 0) rfl (by decide) (by decide) rfl (fun ls hl => ?_)
  refine lv_goto (tgt := 14) hx hb dX1_init_35 (by decide) ?_
  refine lv_iload_n hx hb dX1_init_14 rfl (lv_at hl 0 rfl) ?_
  refine lv_iconst (v := 5) hx hb dX1_init_15 (by decide) ?_
  refine lv_icmp_ge (tgt := 38) hx hb dX1_init_16 (by decide) (fun e => absurd e (by decide)) (fun _ => ?_)
  refine lv_aload_n hx hb dX1_init_19 rfl (lv_at hl 1 rfl) ?_
  refine r_get C hW (K := RX1) (T := TX1) (N := 3) (v := .ref q1) 0 0 0 rfl rfl rfl inX1_init_X1 (by decide) (List.mem_of_getElem? (i := 5) rfl) rfl rfl dX1_init_20 ?_
  refine lv_iload_n hx hb dX1_init_23 rfl (lv_at hl 0 rfl) ?_
  refine r_new C hW (K := RX3) (T := TX3) (N := 10) (ci := 3) (fs := [.null, .null, .null, .null, .null, .int 0, .int 0, .int 0, .int 0, .int 0]) rfl inX1_init_X3 tyX3 tyX3_ok (List.mem_of_getElem? (i := 4) rfl) (List.mem_of_getElem? (i := 6) rfl) (List.mem_of_getElem? (i := 7) rfl) (by intro j hj; match j, hj with | 0, _ => exact rfl | 1, _ => exact rfl | 2, _ => exact rfl | 3, _ => exact rfl | 4, _ => exact rfl | 5, _ => exact rfl | 6, _ => exact rfl | 7, _ => exact rfl | 8, _ => exact rfl | 9, _ => exact rfl | (j + 10), hj => exact absurd hj (by omega)) (by rw [hz.1]; exact Nat.le_of_ble_eq_true rfl) (by rw [hz.2]; exact Nat.le_of_ble_eq_true rfl) dX1_init_24 (fun q8 H hW => ?_)
  replace hW : WdG g Z s.heap H _ [[(h0, .inr (1, [.ref q1, .int 0, .int 0]))], [(q1, .inl (gR g, 5, .inr (.inr (.inr (.inr (va_up (va_up (va_up (fun _ => none) (0 : Int32).toNatClampNeg (some (A3 0))) (1 : Int32).toNatClampNeg (some (A5 0))) (2 : Int32).toNatClampNeg (some (A7 0))))))))], wX3 g A3 0 iX3, wX3 g A5 0 iX3, wX3 g A7 0 iX3, [(q8, .inr (3, [.null, .null, .null, .null, .null, .int 0, .int 0, .int 0, .int 0, .int 0]))]] := hW
  refine lv_dup hx hb dX1_init_27 rfl ?_
  refine r_cI C hW (nA := 0) (As := []) (rest := [.ref q8, .int 3, .ref q1]) (n := 6) (is := [5]) (rs := [0, 1, 2, 3, 4]) (fun w => [[(h0, .inr (1, [.ref q1, .int 0, .int 0]))], [(q1, .inl (gR g, 5, .inr (.inr (.inr (.inr (va_up (va_up (va_up (fun _ => none) (0 : Int32).toNatClampNeg (some (A3 0))) (1 : Int32).toNatClampNeg (some (A5 0))) (2 : Int32).toNatClampNeg (some (A7 0))))))))], wX3 g A3 0 iX3, wX3 g A5 0 iX3, wX3 g A7 0 iX3, w]) (c_X3_init l g q8) gX1_init_X3_init rfl (List.mem_of_getElem? (i := 7) rfl) (List.mem_of_getElem? (i := 8) rfl) (List.mem_of_getElem? (i := 9) rfl) rfl wo_X3_init (rmk hR rfl rfl) rfl rfl hl.1 (Nat.le_of_ble_eq_true rfl) ⟨by rw [hz.1]; exact Nat.le_of_ble_eq_true rfl, by rw [hz.2]; exact Nat.le_of_ble_eq_true rfl⟩ dX1_init_28 rfl (fun _ => rfl) (by decide) rfl (fun w => List.append_nil w) (fun _ => rfl) (fun w9 H locs hw9 hWn => ?_)
  clear hW
  obtain ⟨A9, ea9, rfl⟩ := hw9
  subst ea9
  have hW := hWn
  clear hWn
  refine r_aast C hW (x := 3) (bs' := [[(h0, .inr (1, [.ref q1, .int 0, .int 0]))], [(q1, .inl (gR g, 5, .inr (.inr (.inr (.inr (va_up (va_up (va_up (va_up (fun _ => none) (0 : Int32).toNatClampNeg (some (A3 0))) (1 : Int32).toNatClampNeg (some (A5 0))) (2 : Int32).toNatClampNeg (some (A7 0))) (3 : Int32).toNatClampNeg (some (A9 0))))))))], wX3 g A3 0 iX3, wX3 g A5 0 iX3, wX3 g A7 0 iX3, wX3 g A9 0 iX3]) 1 0 5 0 rfl rfl rfl rfl (show ¬ ((3 : Int32) < 0 ∨ 5 ≤ (3 : Int32).toNatClampNeg) by decide) dX1_init_31 rfl (fun H locs hW => ?_)
  refine lv_iinc (v := 4) (lv' := [(1, .int 4), (0, .ref h0)]) hx hb dX1_init_32 hl (k := 0) rfl (by decide) (by decide) rfl (fun ls hl => ?_)
  refine lv_goto (tgt := 14) hx hb dX1_init_35 (by decide) ?_
  refine lv_iload_n hx hb dX1_init_14 rfl (lv_at hl 0 rfl) ?_
  refine lv_iconst (v := 5) hx hb dX1_init_15 (by decide) ?_
  refine lv_icmp_ge (tgt := 38) hx hb dX1_init_16 (by decide) (fun e => absurd e (by decide)) (fun _ => ?_)
  refine lv_aload_n hx hb dX1_init_19 rfl (lv_at hl 1 rfl) ?_
  refine r_get C hW (K := RX1) (T := TX1) (N := 3) (v := .ref q1) 0 0 0 rfl rfl rfl inX1_init_X1 (by decide) (List.mem_of_getElem? (i := 5) rfl) rfl rfl dX1_init_20 ?_
  refine lv_iload_n hx hb dX1_init_23 rfl (lv_at hl 0 rfl) ?_
  refine r_new C hW (K := RX3) (T := TX3) (N := 10) (ci := 3) (fs := [.null, .null, .null, .null, .null, .int 0, .int 0, .int 0, .int 0, .int 0]) rfl inX1_init_X3 tyX3 tyX3_ok (List.mem_of_getElem? (i := 4) rfl) (List.mem_of_getElem? (i := 6) rfl) (List.mem_of_getElem? (i := 7) rfl) (by intro j hj; match j, hj with | 0, _ => exact rfl | 1, _ => exact rfl | 2, _ => exact rfl | 3, _ => exact rfl | 4, _ => exact rfl | 5, _ => exact rfl | 6, _ => exact rfl | 7, _ => exact rfl | 8, _ => exact rfl | 9, _ => exact rfl | (j + 10), hj => exact absurd hj (by omega)) (by rw [hz.1]; exact Nat.le_of_ble_eq_true rfl) (by rw [hz.2]; exact Nat.le_of_ble_eq_true rfl) dX1_init_24 (fun q10 H hW => ?_)
  replace hW : WdG g Z s.heap H _ [[(h0, .inr (1, [.ref q1, .int 0, .int 0]))], [(q1, .inl (gR g, 5, .inr (.inr (.inr (.inr (va_up (va_up (va_up (va_up (fun _ => none) (0 : Int32).toNatClampNeg (some (A3 0))) (1 : Int32).toNatClampNeg (some (A5 0))) (2 : Int32).toNatClampNeg (some (A7 0))) (3 : Int32).toNatClampNeg (some (A9 0))))))))], wX3 g A3 0 iX3, wX3 g A5 0 iX3, wX3 g A7 0 iX3, wX3 g A9 0 iX3, [(q10, .inr (3, [.null, .null, .null, .null, .null, .int 0, .int 0, .int 0, .int 0, .int 0]))]] := hW
  refine lv_dup hx hb dX1_init_27 rfl ?_
  refine r_cI C hW (nA := 0) (As := []) (rest := [.ref q10, .int 4, .ref q1]) (n := 7) (is := [6]) (rs := [0, 1, 2, 3, 4, 5]) (fun w => [[(h0, .inr (1, [.ref q1, .int 0, .int 0]))], [(q1, .inl (gR g, 5, .inr (.inr (.inr (.inr (va_up (va_up (va_up (va_up (fun _ => none) (0 : Int32).toNatClampNeg (some (A3 0))) (1 : Int32).toNatClampNeg (some (A5 0))) (2 : Int32).toNatClampNeg (some (A7 0))) (3 : Int32).toNatClampNeg (some (A9 0))))))))], wX3 g A3 0 iX3, wX3 g A5 0 iX3, wX3 g A7 0 iX3, wX3 g A9 0 iX3, w]) (c_X3_init l g q10) gX1_init_X3_init rfl (List.mem_of_getElem? (i := 7) rfl) (List.mem_of_getElem? (i := 8) rfl) (List.mem_of_getElem? (i := 9) rfl) rfl wo_X3_init (rmk hR rfl rfl) rfl rfl hl.1 (Nat.le_of_ble_eq_true rfl) ⟨by rw [hz.1]; exact Nat.le_of_ble_eq_true rfl, by rw [hz.2]; exact Nat.le_of_ble_eq_true rfl⟩ dX1_init_28 rfl (fun _ => rfl) (by decide) rfl (fun w => List.append_nil w) (fun _ => rfl) (fun w11 H locs hw11 hWn => ?_)
  clear hW
  obtain ⟨A11, ea11, rfl⟩ := hw11
  subst ea11
  have hW := hWn
  clear hWn
  refine r_aast C hW (x := 4) (bs' := [[(h0, .inr (1, [.ref q1, .int 0, .int 0]))], [(q1, .inl (gR g, 5, .inr (.inr (.inr (.inr (va_up (va_up (va_up (va_up (va_up (fun _ => none) (0 : Int32).toNatClampNeg (some (A3 0))) (1 : Int32).toNatClampNeg (some (A5 0))) (2 : Int32).toNatClampNeg (some (A7 0))) (3 : Int32).toNatClampNeg (some (A9 0))) (4 : Int32).toNatClampNeg (some (A11 0))))))))], wX3 g A3 0 iX3, wX3 g A5 0 iX3, wX3 g A7 0 iX3, wX3 g A9 0 iX3, wX3 g A11 0 iX3]) 1 0 6 0 rfl rfl rfl rfl (show ¬ ((4 : Int32) < 0 ∨ 5 ≤ (4 : Int32).toNatClampNeg) by decide) dX1_init_31 rfl (fun H locs hW => ?_)
  refine lv_iinc (v := 5) (lv' := [(1, .int 5), (0, .ref h0)]) hx hb dX1_init_32 hl (k := 0) rfl (by decide) (by decide) rfl (fun ls hl => ?_)
  refine lv_goto (tgt := 14) hx hb dX1_init_35 (by decide) ?_
  refine lv_iload_n hx hb dX1_init_14 rfl (lv_at hl 0 rfl) ?_
  refine lv_iconst (v := 5) hx hb dX1_init_15 (by decide) ?_
  refine lv_icmp_ge (tgt := 38) hx hb dX1_init_16 (by decide) (fun _ => ?_) (fun e => absurd (by decide) e)
  replace hW : WdG g Z s.heap H _ [[(h0, .inr (1, [.ref q1, .int 0, .int 0]))], [(q1, .inl (gR g, 5, .inr (.inr (.inr (.inr (fun k => some ((fun i => if i < 1 then h0 else if i < 2 then q1 else if i < 14 then A3 (i - 2) else if i < 26 then A5 (i - 14) else if i < 38 then A7 (i - 26) else if i < 50 then A9 (i - 38) else A11 (i - 50)) (0 + 2 + 12 * k))))))))], wX3 g A3 0 iX3, wX3 g A5 0 iX3, wX3 g A7 0 iX3, wX3 g A9 0 iX3, wX3 g A11 0 iX3] := hW.refs (f' := fun k => some ((fun i => if i < 1 then h0 else if i < 2 then q1 else if i < 14 then A3 (i - 2) else if i < 26 then A5 (i - 14) else if i < 38 then A7 (i - 26) else if i < 50 then A9 (i - 38) else A11 (i - 50)) (0 + 2 + 12 * k))) 1 rfl (by intro j hj; match j, hj with | 0, _ => exact rfl | 1, _ => exact rfl | 2, _ => exact rfl | 3, _ => exact rfl | 4, _ => exact rfl | (j + 5), hj => exact absurd hj (by omega)) rfl
  exact E _ _ _ _ _ hW ⟨(fun i => if i < 1 then h0 else if i < 2 then q1 else if i < 14 then A3 (i - 2) else if i < 26 then A5 (i - 14) else if i < 38 then A7 (i - 26) else if i < 50 then A9 (i - 38) else A11 (i - 50)), rfl, rfl⟩ dX1_init_38
def iX2 : TX2s := ((fun _ => 0), 0)
theorem wo_X2_init : wordsOk yX2_init 0 := by decide +kernel
theorem inX2_init_X2 : ∀ w ∈ wsX20, w ∈ wsX2_init := fun _ h => List.mem_cons_of_mem _ (List.mem_append_right _ h)
set_option maxHeartbeats 4000000 in
set_option maxRecDepth 100000 in
theorem c_X2_init (l : Launch) (g : GG) (h0 : Nat) : CN l yX2_init wsX2_init 1 13 1 70 g [.ref h0] [(h0, .inr (2, [.null, .int 0]))] (fun w => ∃ A : Nat → Nat, A 0 = h0 ∧ w = wX2 g A 0 iX2) := by
  refine CN.mk (own := RX2) (by decide) rfl rfl rfl (Nat.le_of_ble_eq_true rfl) ?_
  intro p e R s m args below meth c Z Q C E hR hz hin H hW ls hl
  have hx := C.1.1
  have hb := C.1.2.1
  replace hl : lv_has ls 1 [(0, .ref h0)] := hl
  refine lv_aload_n hx hb dX2_init_0 rfl (lv_at hl 0 rfl) ?_
  refine r_objInit C hl.1 (List.mem_of_getElem? (i := 1) rfl) (List.mem_of_getElem? (i := 2) rfl) (List.mem_of_getElem? (i := 3) rfl) (rmk hR rfl rfl) dX2_init_1 ?_
  refine lv_aload_n hx hb dX2_init_4 rfl (lv_at hl 0 rfl) ?_
  refine lv_bipush (v := 70) hx hb dX2_init_5 (by decide) ?_
  refine r_newaC C hW (n := 70) (by decide) (by decide) (Nat.le_of_ble_eq_true rfl) (List.mem_of_getElem? (i := 4) rfl) (by rw [hz.1]; exact Nat.le_of_ble_eq_true rfl) (by rw [hz.2]; exact Nat.le_of_ble_eq_true rfl) dX2_init_7 (fun q1 H hW => ?_)
  replace hW : WdG g Z s.heap H _ [[(h0, .inr (2, [.null, .int 0]))], [(q1, .inl (gC g, 70, .inl (fun _ => 0)))]] := hW
  refine r_putF C hW (bs' := [[(h0, .inr (2, [.ref q1, .int 0]))], [(q1, .inl (gC g, 70, .inl (fun _ => 0)))]]) (K := RX2) (T := TX2) (N := 2) 0 0 0 rfl rfl rfl inX2_init_X2 tyX2 tyX2_ok nmX2 (by decide) (List.mem_of_getElem? (i := 5) rfl) rfl rfl hin rfl (tyX2_ok 0 (by decide)) rfl rfl (Nat.le_of_ble_eq_true rfl) dX2_init_9 rfl (fun H locs hW => ?_)
  exact E _ _ _ _ _ hW ⟨(fun i => if i < 1 then h0 else q1), rfl, rfl⟩ dX2_init_12
def iX0 : TX0s := (fun _ => 0)
theorem wo_X0_init : wordsOk yX0_init 0 := by decide +kernel
theorem inX0_init_X0 : ∀ w ∈ wsX00, w ∈ wsX0_init := fun _ h => List.mem_cons_of_mem _ (List.mem_append_right _ h)
set_option maxHeartbeats 4000000 in
set_option maxRecDepth 100000 in
theorem c_X0_init (l : Launch) (g : GG) (h0 : Nat) : CN l yX0_init wsX0_init 1 13 1 3 g [.ref h0] [(h0, .inr (0, [.null]))] (fun w => ∃ A : Nat → Nat, A 0 = h0 ∧ w = wX0 g A 0 iX0) := by
  refine CN.mk (own := RX0) (by decide) rfl rfl rfl (Nat.le_of_ble_eq_true rfl) ?_
  intro p e R s m args below meth c Z Q C E hR hz hin H hW ls hl
  have hx := C.1.1
  have hb := C.1.2.1
  replace hl : lv_has ls 1 [(0, .ref h0)] := hl
  refine lv_aload_n hx hb dX0_init_0 rfl (lv_at hl 0 rfl) ?_
  refine r_objInit C hl.1 (List.mem_of_getElem? (i := 1) rfl) (List.mem_of_getElem? (i := 2) rfl) (List.mem_of_getElem? (i := 3) rfl) (rmk hR rfl rfl) dX0_init_1 ?_
  refine lv_aload_n hx hb dX0_init_4 rfl (lv_at hl 0 rfl) ?_
  refine lv_iconst (v := 3) hx hb dX0_init_5 (by decide) ?_
  refine r_newaI C hW (n := 3) (by decide) (by decide) (Nat.le_of_ble_eq_true rfl) (List.mem_of_getElem? (i := 4) rfl) (by rw [hz.1]; exact Nat.le_of_ble_eq_true rfl) (by rw [hz.2]; exact Nat.le_of_ble_eq_true rfl) dX0_init_6 (fun q1 H hW => ?_)
  replace hW : WdG g Z s.heap H _ [[(h0, .inr (0, [.null]))], [(q1, .inl (gI g, 3, .inl (fun _ => 0)))]] := hW
  refine r_putF C hW (bs' := [[(h0, .inr (0, [.ref q1]))], [(q1, .inl (gI g, 3, .inl (fun _ => 0)))]]) (K := RX0) (T := TX0) (N := 1) 0 0 0 rfl rfl rfl inX0_init_X0 tyX0 tyX0_ok nmX0 (by decide) (List.mem_of_getElem? (i := 5) rfl) rfl rfl hin rfl (tyX0_ok 0 (by decide)) rfl rfl (Nat.le_of_ble_eq_true rfl) dX0_init_8 rfl (fun H locs hW => ?_)
  exact E _ _ _ _ _ hW ⟨(fun i => if i < 1 then h0 else q1), rfl, rfl⟩ dX0_init_11
def iX5 : TX5s := (iX3, iX3, 0, iX1, iX2, iX0)
theorem wo_X5_init : wordsOk yX5_init 0 := by decide +kernel
theorem inX5_init_X0 : ∀ w ∈ wsX00, w ∈ wsX5_init := fun _ h => List.mem_cons_of_mem _ (List.mem_append_left _ (List.mem_append_right _ h))
theorem inX5_init_X1 : ∀ w ∈ wsX10, w ∈ wsX5_init := fun _ h => List.mem_cons_of_mem _ (List.mem_append_left _ (List.mem_append_left _ (List.mem_append_left _ (List.mem_append_right _ h))))
theorem inX5_init_X2 : ∀ w ∈ wsX20, w ∈ wsX5_init := fun _ h => List.mem_cons_of_mem _ (List.mem_append_left _ (List.mem_append_left _ (List.mem_append_right _ h)))
theorem inX5_init_X3 : ∀ w ∈ wsX30, w ∈ wsX5_init := fun _ h => List.mem_cons_of_mem _ (List.mem_append_left _ (List.mem_append_left _ (List.mem_append_left _ (List.mem_append_left _ (List.mem_append_left _ (List.mem_append_right _ h))))))
theorem inX5_init_X5 : ∀ w ∈ wsX50, w ∈ wsX5_init := fun _ h => List.mem_cons_of_mem _ (List.mem_append_left _ (List.mem_append_left _ (List.mem_append_left _ (List.mem_append_left _ (List.mem_append_right _ h)))))
set_option maxHeartbeats 4000000 in
set_option maxRecDepth 100000 in
theorem c_X5_init (l : Launch) (g : GG) (h0 : Nat) : CN l yX5_init wsX5_init 4 75 90 2044 g [.ref h0] [(h0, .inr (5, [.null, .null, .int 0, .null, .null, .null]))] (fun w => ∃ A : Nat → Nat, A 0 = h0 ∧ w = wX5 g A 0 iX5) := by
  refine CN.mk (own := RX5) (by decide) rfl rfl rfl (Nat.le_of_ble_eq_true rfl) ?_
  intro p e R s m args below meth c Z Q C E hR hz hin H hW ls hl
  have hx := C.1.1
  have hb := C.1.2.1
  replace hl : lv_has ls 1 [(0, .ref h0)] := hl
  refine lv_aload_n hx hb dX5_init_0 rfl (lv_at hl 0 rfl) ?_
  refine r_objInit C hl.1 (List.mem_of_getElem? (i := 1) rfl) (List.mem_of_getElem? (i := 2) rfl) (List.mem_of_getElem? (i := 3) rfl) (rmk hR rfl rfl) dX5_init_1 ?_
  refine lv_aload_n hx hb dX5_init_4 rfl (lv_at hl 0 rfl) ?_
  refine r_new C hW (K := RX3) (T := TX3) (N := 10) (ci := 3) (fs := [.null, .null, .null, .null, .null, .int 0, .int 0, .int 0, .int 0, .int 0]) rfl inX5_init_X3 tyX3 tyX3_ok (List.mem_of_getElem? (i := 4) rfl) (List.mem_of_getElem? (i := 5) rfl) (List.mem_of_getElem? (i := 6) rfl) (by intro j hj; match j, hj with | 0, _ => exact rfl | 1, _ => exact rfl | 2, _ => exact rfl | 3, _ => exact rfl | 4, _ => exact rfl | 5, _ => exact rfl | 6, _ => exact rfl | 7, _ => exact rfl | 8, _ => exact rfl | 9, _ => exact rfl | (j + 10), hj => exact absurd hj (by omega)) (by rw [hz.1]; exact Nat.le_of_ble_eq_true rfl) (by rw [hz.2]; exact Nat.le_of_ble_eq_true rfl) dX5_init_5 (fun q1 H hW => ?_)
  replace hW : WdG g Z s.heap H _ [[(h0, .inr (5, [.null, .null, .int 0, .null, .null, .null]))], [(q1, .inr (3, [.null, .null, .null, .null, .null, .int 0, .int 0, .int 0, .int 0, .int 0]))]] := hW
  refine lv_dup hx hb dX5_init_8 rfl ?_
  refine r_cI C hW (nA := 0) (As := []) (rest := [.ref q1, .ref h0]) (n := 2) (is := [1]) (rs := [0]) (fun w => [[(h0, .inr (5, [.null, .null, .int 0, .null, .null, .null]))], w]) (c_X3_init l g q1) gX5_init_X3_init rfl (List.mem_of_getElem? (i := 6) rfl) (List.mem_of_getElem? (i := 22) rfl) (List.mem_of_getElem? (i := 23) rfl) rfl wo_X3_init (rmk hR rfl rfl) rfl rfl hl.1 (Nat.le_of_ble_eq_true rfl) ⟨by rw [hz.1]; exact Nat.le_of_ble_eq_true rfl, by rw [hz.2]; exact Nat.le_of_ble_eq_true rfl⟩ dX5_init_9 rfl (fun _ => rfl) (by decide) rfl (fun w => List.append_nil w) (fun _ => rfl) (fun w2 H locs hw2 hWn => ?_)
  clear hW
  obtain ⟨A2, ea2, rfl⟩ := hw2
  subst ea2
  have hW := hWn
  clear hWn
  refine r_putF C hW (bs' := [[(h0, .inr (5, [.ref (A2 0), .null, .int 0, .null, .null, .null]))], wX3 g A2 0 iX3]) (K := RX5) (T := TX5) (N := 6) 0 0 0 rfl rfl rfl inX5_init_X5 tyX5 tyX5_ok nmX5 (by decide) (List.mem_of_getElem? (i := 7) rfl) rfl rfl hin rfl (tyX5_ok 0 (by decide)) rfl rfl (Nat.le_of_ble_eq_true rfl) dX5_init_12 rfl (fun H locs hW => ?_)
  refine lv_aload_n hx hb dX5_init_15 rfl (lv_at hl 0 rfl) ?_
  refine r_new C hW (K := RX3) (T := TX3) (N := 10) (ci := 3) (fs := [.null, .null, .null, .null, .null, .int 0, .int 0, .int 0, .int 0, .int 0]) rfl inX5_init_X3 tyX3 tyX3_ok (List.mem_of_getElem? (i := 4) rfl) (List.mem_of_getElem? (i := 5) rfl) (List.mem_of_getElem? (i := 6) rfl) (by intro j hj; match j, hj with | 0, _ => exact rfl | 1, _ => exact rfl | 2, _ => exact rfl | 3, _ => exact rfl | 4, _ => exact rfl | 5, _ => exact rfl | 6, _ => exact rfl | 7, _ => exact rfl | 8, _ => exact rfl | 9, _ => exact rfl | (j + 10), hj => exact absurd hj (by omega)) (by rw [hz.1]; exact Nat.le_of_ble_eq_true rfl) (by rw [hz.2]; exact Nat.le_of_ble_eq_true rfl) dX5_init_16 (fun q3 H hW => ?_)
  replace hW : WdG g Z s.heap H _ [[(h0, .inr (5, [.ref (A2 0), .null, .int 0, .null, .null, .null]))], wX3 g A2 0 iX3, [(q3, .inr (3, [.null, .null, .null, .null, .null, .int 0, .int 0, .int 0, .int 0, .int 0]))]] := hW
  refine lv_dup hx hb dX5_init_19 rfl ?_
  refine r_cI C hW (nA := 0) (As := []) (rest := [.ref q3, .ref h0]) (n := 3) (is := [2]) (rs := [0, 1]) (fun w => [[(h0, .inr (5, [.ref (A2 0), .null, .int 0, .null, .null, .null]))], wX3 g A2 0 iX3, w]) (c_X3_init l g q3) gX5_init_X3_init rfl (List.mem_of_getElem? (i := 6) rfl) (List.mem_of_getElem? (i := 22) rfl) (List.mem_of_getElem? (i := 23) rfl) rfl wo_X3_init (rmk hR rfl rfl) rfl rfl hl.1 (Nat.le_of_ble_eq_true rfl) ⟨by rw [hz.1]; exact Nat.le_of_ble_eq_true rfl, by rw [hz.2]; exact Nat.le_of_ble_eq_true rfl⟩ dX5_init_20 rfl (fun _ => rfl) (by decide) rfl (fun w => List.append_nil w) (fun _ => rfl) (fun w4 H locs hw4 hWn => ?_)
  clear hW
  obtain ⟨A4, ea4, rfl⟩ := hw4
  subst ea4
  have hW := hWn
  clear hWn
  refine r_putF C hW (bs' := [[(h0, .inr (5, [.ref (A2 0), .ref (A4 0), .int 0, .null, .null, .null]))], wX3 g A2 0 iX3, wX3 g A4 0 iX3]) (K := RX5) (T := TX5) (N := 6) 0 0 1 rfl rfl rfl inX5_init_X5 tyX5 tyX5_ok nmX5 (by decide) (List.mem_of_getElem? (i := 8) rfl) rfl rfl hin rfl (tyX5_ok 1 (by decide)) rfl rfl (Nat.le_of_ble_eq_true rfl) dX5_init_23 rfl (fun H locs hW => ?_)
  refine lv_aload_n hx hb dX5_init_26 rfl (lv_at hl 0 rfl) ?_
  refine lv_iconst (v := 0) hx hb dX5_init_27 (by decide) ?_
  refine r_put C hW (bs' := [[(h0, .inr (5, [.ref (A2 0), .ref (A4 0), .int 0, .null, .null, .null]))], wX3 g A2 0 iX3, wX3 g A4 0 iX3]) (K := RX5) (T := TX5) (N := 6) 0 0 2 rfl rfl rfl inX5_init_X5 tyX5 tyX5_ok nmX5 (by decide) (List.mem_of_getElem? (i := 9) rfl) rfl rfl (tyX5_ok 2 (by decide)) rfl rfl (Nat.le_of_ble_eq_true rfl) dX5_init_28 rfl (fun H locs hW => ?_)
  refine lv_aload_n hx hb dX5_init_31 rfl (lv_at hl 0 rfl) ?_
  refine r_new C hW (K := RX1) (T := TX1) (N := 3) (ci := 1) (fs := [.null, .int 0, .int 0]) rfl inX5_init_X1 tyX1 tyX1_ok (List.mem_of_getElem? (i := 10) rfl) (List.mem_of_getElem? (i := 11) rfl) (List.mem_of_getElem? (i := 12) rfl) (by intro j hj; match j, hj with | 0, _ => exact rfl | 1, _ => exact rfl | 2, _ => exact rfl | (j + 3), hj => exact absurd hj (by omega)) (by rw [hz.1]; exact Nat.le_of_ble_eq_true rfl) (by rw [hz.2]; exact Nat.le_of_ble_eq_true rfl) dX5_init_32 (fun q5 H hW => ?_)
  replace hW : WdG g Z s.heap H _ [[(h0, .inr (5, [.ref (A2 0), .ref (A4 0), .int 0, .null, .null, .null]))], wX3 g A2 0 iX3, wX3 g A4 0 iX3, [(q5, .inr (1, [.null, .int 0, .int 0]))]] := hW
  refine lv_dup hx hb dX5_init_35 rfl ?_
  refine r_cI C hW (nA := 0) (As := []) (rest := [.ref q5, .ref h0]) (n := 4) (is := [3]) (rs := [0, 1, 2]) (fun w => [[(h0, .inr (5, [.ref (A2 0), .ref (A4 0), .int 0, .null, .null, .null]))], wX3 g A2 0 iX3, wX3 g A4 0 iX3, w]) (c_X1_init l g q5) gX5_init_X1_init rfl (List.mem_of_getElem? (i := 12) rfl) (List.mem_of_getElem? (i := 43) rfl) (List.mem_of_getElem? (i := 44) rfl) rfl wo_X1_init (rmk hR rfl rfl) rfl rfl hl.1 (Nat.le_of_ble_eq_true rfl) ⟨by rw [hz.1]; exact Nat.le_of_ble_eq_true rfl, by rw [hz.2]; exact Nat.le_of_ble_eq_true rfl⟩ dX5_init_36 rfl (fun _ => rfl) (by decide) rfl (fun w => List.append_nil w) (fun _ => rfl) (fun w6 H locs hw6 hWn => ?_)
  clear hW
  obtain ⟨A6, ea6, rfl⟩ := hw6
  subst ea6
  have hW := hWn
  clear hWn
  refine r_putF C hW (bs' := [[(h0, .inr (5, [.ref (A2 0), .ref (A4 0), .int 0, .ref (A6 0), .null, .null]))], wX3 g A2 0 iX3, wX3 g A4 0 iX3, wX1 g A6 0 iX1]) (K := RX5) (T := TX5) (N := 6) 0 0 3 rfl rfl rfl inX5_init_X5 tyX5 tyX5_ok nmX5 (by decide) (List.mem_of_getElem? (i := 13) rfl) rfl rfl hin rfl (tyX5_ok 3 (by decide)) rfl rfl (Nat.le_of_ble_eq_true rfl) dX5_init_39 rfl (fun H locs hW => ?_)
  refine lv_aload_n hx hb dX5_init_42 rfl (lv_at hl 0 rfl) ?_
  refine r_new C hW (K := RX2) (T := TX2) (N := 2) (ci := 2) (fs := [.null, .int 0]) rfl inX5_init_X2 tyX2 tyX2_ok (List.mem_of_getElem? (i := 14) rfl) (List.mem_of_getElem? (i := 15) rfl) (List.mem_of_getElem? (i := 16) rfl) (by intro j hj; match j, hj with | 0, _ => exact rfl | 1, _ => exact rfl | (j + 2), hj => exact absurd hj (by omega)) (by rw [hz.1]; exact Nat.le_of_ble_eq_true rfl) (by rw [hz.2]; exact Nat.le_of_ble_eq_true rfl) dX5_init_43 (fun q7 H hW => ?_)
  replace hW : WdG g Z s.heap H _ [[(h0, .inr (5, [.ref (A2 0), .ref (A4 0), .int 0, .ref (A6 0), .null, .null]))], wX3 g A2 0 iX3, wX3 g A4 0 iX3, wX1 g A6 0 iX1, [(q7, .inr (2, [.null, .int 0]))]] := hW
  refine lv_dup hx hb dX5_init_46 rfl ?_
  refine r_cI C hW (nA := 0) (As := []) (rest := [.ref q7, .ref h0]) (n := 5) (is := [4]) (rs := [0, 1, 2, 3]) (fun w => [[(h0, .inr (5, [.ref (A2 0), .ref (A4 0), .int 0, .ref (A6 0), .null, .null]))], wX3 g A2 0 iX3, wX3 g A4 0 iX3, wX1 g A6 0 iX1, w]) (c_X2_init l g q7) gX5_init_X2_init rfl (List.mem_of_getElem? (i := 16) rfl) (List.mem_of_getElem? (i := 50) rfl) (List.mem_of_getElem? (i := 51) rfl) rfl wo_X2_init (rmk hR rfl rfl) rfl rfl hl.1 (Nat.le_of_ble_eq_true rfl) ⟨by rw [hz.1]; exact Nat.le_of_ble_eq_true rfl, by rw [hz.2]; exact Nat.le_of_ble_eq_true rfl⟩ dX5_init_47 rfl (fun _ => rfl) (by decide) rfl (fun w => List.append_nil w) (fun _ => rfl) (fun w8 H locs hw8 hWn => ?_)
  clear hW
  obtain ⟨A8, ea8, rfl⟩ := hw8
  subst ea8
  have hW := hWn
  clear hWn
  refine r_putF C hW (bs' := [[(h0, .inr (5, [.ref (A2 0), .ref (A4 0), .int 0, .ref (A6 0), .ref (A8 0), .null]))], wX3 g A2 0 iX3, wX3 g A4 0 iX3, wX1 g A6 0 iX1, wX2 g A8 0 iX2]) (K := RX5) (T := TX5) (N := 6) 0 0 4 rfl rfl rfl inX5_init_X5 tyX5 tyX5_ok nmX5 (by decide) (List.mem_of_getElem? (i := 17) rfl) rfl rfl hin rfl (tyX5_ok 4 (by decide)) rfl rfl (Nat.le_of_ble_eq_true rfl) dX5_init_50 rfl (fun H locs hW => ?_)
  refine lv_aload_n hx hb dX5_init_53 rfl (lv_at hl 0 rfl) ?_
  refine r_new C hW (K := RX0) (T := TX0) (N := 1) (ci := 0) (fs := [.null]) rfl inX5_init_X0 tyX0 tyX0_ok (List.mem_of_getElem? (i := 18) rfl) (List.mem_of_getElem? (i := 19) rfl) (List.mem_of_getElem? (i := 20) rfl) (by intro j hj; match j, hj with | 0, _ => exact rfl | (j + 1), hj => exact absurd hj (by omega)) (by rw [hz.1]; exact Nat.le_of_ble_eq_true rfl) (by rw [hz.2]; exact Nat.le_of_ble_eq_true rfl) dX5_init_54 (fun q9 H hW => ?_)
  replace hW : WdG g Z s.heap H _ [[(h0, .inr (5, [.ref (A2 0), .ref (A4 0), .int 0, .ref (A6 0), .ref (A8 0), .null]))], wX3 g A2 0 iX3, wX3 g A4 0 iX3, wX1 g A6 0 iX1, wX2 g A8 0 iX2, [(q9, .inr (0, [.null]))]] := hW
  refine lv_dup hx hb dX5_init_57 rfl ?_
  refine r_cI C hW (nA := 0) (As := []) (rest := [.ref q9, .ref h0]) (n := 6) (is := [5]) (rs := [0, 1, 2, 3, 4]) (fun w => [[(h0, .inr (5, [.ref (A2 0), .ref (A4 0), .int 0, .ref (A6 0), .ref (A8 0), .null]))], wX3 g A2 0 iX3, wX3 g A4 0 iX3, wX1 g A6 0 iX1, wX2 g A8 0 iX2, w]) (c_X0_init l g q9) gX5_init_X0_init rfl (List.mem_of_getElem? (i := 20) rfl) (List.mem_of_getElem? (i := 56) rfl) (List.mem_of_getElem? (i := 57) rfl) rfl wo_X0_init (rmk hR rfl rfl) rfl rfl hl.1 (Nat.le_of_ble_eq_true rfl) ⟨by rw [hz.1]; exact Nat.le_of_ble_eq_true rfl, by rw [hz.2]; exact Nat.le_of_ble_eq_true rfl⟩ dX5_init_58 rfl (fun _ => rfl) (by decide) rfl (fun w => List.append_nil w) (fun _ => rfl) (fun w10 H locs hw10 hWn => ?_)
  clear hW
  obtain ⟨A10, ea10, rfl⟩ := hw10
  subst ea10
  have hW := hWn
  clear hWn
  refine r_putF C hW (bs' := [[(h0, .inr (5, [.ref (A2 0), .ref (A4 0), .int 0, .ref (A6 0), .ref (A8 0), .ref (A10 0)]))], wX3 g A2 0 iX3, wX3 g A4 0 iX3, wX1 g A6 0 iX1, wX2 g A8 0 iX2, wX0 g A10 0 iX0]) (K := RX5) (T := TX5) (N := 6) 0 0 5 rfl rfl rfl inX5_init_X5 tyX5 tyX5_ok nmX5 (by decide) (List.mem_of_getElem? (i := 21) rfl) rfl rfl hin rfl (tyX5_ok 5 (by decide)) rfl rfl (Nat.le_of_ble_eq_true rfl) dX5_init_61 rfl (fun H locs hW => ?_)
  replace hW : WdG g Z s.heap H _ [[(h0, .inr (5, [.ref (A2 0), .ref (A4 0), .int 0, .ref (A6 0), .ref (A8 0), .ref (A10 0)]))], wX3 g A2 0 iX3, wX3 g A4 0 iX3, [(A6 0, .inr (1, [.ref (A6 (0 + 1)), .int iX1.2.1, .int iX1.2.2]))], [(A6 (0 + 1), .inl (gR g, 5, .inr (.inr (.inr (.inr (fun k => some (A6 (0 + 2 + 12 * k))))))))], wX3 g A6 (0 + 2) (iX1.1 0), wX3 g A6 (0 + 14) (iX1.1 1), wX3 g A6 (0 + 26) (iX1.1 2), wX3 g A6 (0 + 38) (iX1.1 3), wX3 g A6 (0 + 50) (iX1.1 4), wX2 g A8 0 iX2, wX0 g A10 0 iX0] := hW.re rfl
  replace hW : WdG g Z s.heap H _ [[(h0, .inr (5, [.ref (A2 0), .ref (A4 0), .int 0, .ref (A6 0), .ref (A8 0), .ref (A10 0)]))], wX3 g A2 0 iX3, wX3 g A4 0 iX3, [(A6 0, .inr (1, [.ref (A6 (0 + 1)), .int iX1.2.1, .int iX1.2.2]))], [(A6 (0 + 1), .inl (gR g, 5, .inr (.inr (.inr (.inr (fun k => some ((fun i => if i < 1 then h0 else if i < 13 then A2 (i - 1) else if i < 25 then A4 (i - 13) else if i < 87 then A6 (i - 25) else if i < 89 then A8 (i - 87) else A10 (i - 89)) (0 + 25 + 2 + 12 * k))))))))], wX3 g A6 (0 + 2) (iX1.1 0), wX3 g A6 (0 + 14) (iX1.1 1), wX3 g A6 (0 + 26) (iX1.1 2), wX3 g A6 (0 + 38) (iX1.1 3), wX3 g A6 (0 + 50) (iX1.1 4), wX2 g A8 0 iX2, wX0 g A10 0 iX0] := hW.refs (f' := fun k => some ((fun i => if i < 1 then h0 else if i < 13 then A2 (i - 1) else if i < 25 then A4 (i - 13) else if i < 87 then A6 (i - 25) else if i < 89 then A8 (i - 87) else A10 (i - 89)) (0 + 25 + 2 + 12 * k))) 4 rfl (by intro j hj; match j, hj with | 0, _ => exact rfl | 1, _ => exact rfl | 2, _ => exact rfl | 3, _ => exact rfl | 4, _ => exact rfl | (j + 5), hj => exact absurd hj (by omega)) rfl
  exact E _ _ _ _ _ hW ⟨(fun i => if i < 1 then h0 else if i < 13 then A2 (i - 1) else if i < 25 then A4 (i - 13) else if i < 87 then A6 (i - 25) else if i < 89 then A8 (i - 87) else A10 (i - 89)), rfl, rfl⟩ dX5_init_64
