def f_X0_enterMile_l3 (y : TX3s) (p1 : Int32) (p2 : Int32) (k3 : (Int32 × TX0s) → Option (TX0s)) (v3 : Int32 × TX0s) : Option (TX0s) :=
if 3 ≤ v3.1 then (
some v3.2)
else (
(f_X3_isFree y v3.1 p1 p2).bind fun t2 =>
if t2 = 0 then (
if v3.1 < 0 ∨ 3 ≤ (v3.1).toNatClampNeg then none else
k3 ((v3.1 + 1), (upd v3.2 (v3.1).toNatClampNeg 1000)))
else (
k3 ((v3.1 + 1), v3.2)))
def f_X0_enterMile (x : TX0s) (y : TX3s) (p1 : Int32) (p2 : Int32) : Option (TX0s) :=
lpN (f_X0_enterMile_l3 y p1 p2) 3000 (0, x)
theorem wo_X0_enterMile : wordsOk yX0_enterMile 3 := by decide +kernel
theorem inX0_enterMile_X0 : ∀ w ∈ wsX00, w ∈ wsX0_enterMile := fun _ h => List.mem_cons_of_mem _ (List.mem_append_left _ (List.mem_append_left _ (List.mem_append_right _ h)))
set_option maxHeartbeats 4000000 in
set_option maxRecDepth 100000 in
theorem c_X0_enterMile (l : Launch) (g : GG) (A : Nat → Nat) (b : Nat) (A2 : Nat → Nat) (b2 : Nat) (x : TX0s) (y : TX3s) (p1 : Int32) (p2 : Int32) (x' : TX0s) (h : f_X0_enterMile x y p1 p2 = some x') : CV l yX0_enterMile wsX0_enterMile 2 47 g [.ref (A b), .ref (A2 b2), .int p1, .int p2] (wX0 g A b x ++ wX3 g A2 b2 y) (wX0 g A b x' ++ wX3 g A2 b2 y) := by
  refine CV.mk (own := RX0) (by decide) rfl rfl (Nat.le_of_ble_eq_true rfl) ?_
  intro p e R s m args below meth c Z Q C E hR H hW ls hl
  have hx := C.1.1
  have hb := C.1.2.1
  have hown := C.1.2.2.2.1
  replace hW : WdG g Z s.heap H [] [[(A b, .inr (0, [.ref (A (b + 1))]))], [(A (b + 1), .inl (gI g, 3, .inl x))], [(A2 b2, .inr (3, [.ref (A2 (b2 + 1)), .ref (A2 (b2 + 4)), .ref (A2 (b2 + 7)), .ref (A2 (b2 + 10)), .ref (A2 (b2 + 11)), .int y.2.2.2.2.2.1, .int y.2.2.2.2.2.2.1, .int y.2.2.2.2.2.2.2.1, .int y.2.2.2.2.2.2.2.2.1, .int y.2.2.2.2.2.2.2.2.2]))], wX4 g A2 (b2 + 1) y.1, wX4 g A2 (b2 + 4) y.2.1, wX4 g A2 (b2 + 7) y.2.2.1, [(A2 (b2 + 10), .inl (gI g, 3, .inl y.2.2.2.1))], [(A2 (b2 + 11), .inl (gI g, 2, .inl y.2.2.2.2.1))]] := hW.re rfl
  replace hl : lv_has ls 5 [(0, .ref (A b)), (1, .ref (A2 b2)), (2, .int p1), (3, .int p2)] := hl
  unfold f_X0_enterMile at h
  refine lv_iconst (v := 0) hx hb dX0_enterMile_0 (by decide) ?_
  refine lv_istore (lv' := [(4, .int 0), (0, .ref (A b)), (1, .ref (A2 b2)), (2, .int p1), (3, .int p2)]) hx hb dX0_enterMile_1 hl (by decide) rfl (fun ls hl => ?_)
  have L3 : ∀ n3 : Nat, ∀ (v3 : Int32 × TX0s), lpN (f_X0_enterMile_l3 y p1 p2) n3 v3 = some x' → ∀ (H : Heap) (locs : List Loc), WdG g Z s.heap H locs [[(A b, .inr (0, [.ref (A (b + 1))]))], [(A (b + 1), .inl (gI g, 3, .inl v3.2))], [(A2 b2, .inr (3, [.ref (A2 (b2 + 1)), .ref (A2 (b2 + 4)), .ref (A2 (b2 + 7)), .ref (A2 (b2 + 10)), .ref (A2 (b2 + 11)), .int y.2.2.2.2.2.1, .int y.2.2.2.2.2.2.1, .int y.2.2.2.2.2.2.2.1, .int y.2.2.2.2.2.2.2.2.1, .int y.2.2.2.2.2.2.2.2.2]))], wX4 g A2 (b2 + 1) y.1, wX4 g A2 (b2 + 4) y.2.1, wX4 g A2 (b2 + 7) y.2.2.1, [(A2 (b2 + 10), .inl (gI g, 3, .inl y.2.2.2.1))], [(A2 (b2 + 11), .inl (gI g, 2, .inl y.2.2.2.2.1))]] → ∀ ls : Array Slot, lv_has ls 5 [(0, .ref (A b)), (1, .ref (A2 b2)), (2, .int p1), (3, .int p2), (4, .int v3.1)] → W p l e R s m args below meth c H locs 0 0 Q (F0 m 3 ls []) := by
    intro n3
    induction n3 with
    | zero => intro v3 h; exact absurd (show none = some x' from h) (fun h => by cases h)
    | succ n3 ih3 =>
      intro v3 h H locs hW ls hl
      replace h : f_X0_enterMile_l3 y p1 p2 (lpN (f_X0_enterMile_l3 y p1 p2) n3) v3 = some x' := h
      unfold f_X0_enterMile_l3 at h
      refine lv_iload hx hb dX0_enterMile_3 (lv_at hl 4 rfl) ?_
      refine lv_iconst (v := 3) hx hb dX0_enterMile_5 (by decide) ?_
      refine lv_icmp_ge (tgt := 36) hx hb dX0_enterMile_6 (by decide) (fun e1 => ?_) (fun e1 => ?_)
      · replace h := q_t e1 h
        cases h
        exact E _ _ _ _ _ hW rfl dX0_enterMile_36
      · replace h := q_f e1 h
        refine lv_aload_n hx hb dX0_enterMile_9 rfl (lv_at hl 1 rfl) ?_
        refine lv_iload hx hb dX0_enterMile_10 (lv_at hl 4 rfl) ?_
        refine lv_iload_n hx hb dX0_enterMile_12 rfl (lv_at hl 2 rfl) ?_
        refine lv_iload_n hx hb dX0_enterMile_13 rfl (lv_at hl 3 rfl) ?_
        obtain ⟨t2, h3, h⟩ := q_b h
        refine r_cVi C hW (nA := 3) (As := [.int v3.1, .int p1, .int p2]) (rest := []) (c_X3_isFree l g A2 b2 y v3.1 p1 p2 _ h3) gX0_enterMile_X3_isFree rfl ⟨rfl, wo_X3_isFree⟩ (rmk hR rfl rfl) rfl rfl rfl rfl hl.1 (Nat.le_of_ble_eq_true rfl) rz dX0_enterMile_14 (n := 8) (is := [2, 3, 4, 5, 6, 7]) (rs := [0, 1]) (bs' := [[(A b, .inr (0, [.ref (A (b + 1))]))], [(A (b + 1), .inl (gI g, 3, .inl v3.2))], [(A2 b2, .inr (3, [.ref (A2 (b2 + 1)), .ref (A2 (b2 + 4)), .ref (A2 (b2 + 7)), .ref (A2 (b2 + 10)), .ref (A2 (b2 + 11)), .int y.2.2.2.2.2.1, .int y.2.2.2.2.2.2.1, .int y.2.2.2.2.2.2.2.1, .int y.2.2.2.2.2.2.2.2.1, .int y.2.2.2.2.2.2.2.2.2]))], wX4 g A2 (b2 + 1) y.1, wX4 g A2 (b2 + 4) y.2.1, wX4 g A2 (b2 + 7) y.2.2.1, [(A2 (b2 + 10), .inl (gI g, 3, .inl y.2.2.2.1))], [(A2 (b2 + 11), .inl (gI g, 2, .inl y.2.2.2.2.1))]]) rfl rfl pm_09aa9c18 rfl rfl rfl (fun H locs hW => ?_)
        refine lv_if_ne (tgt := 30) hx hb dX0_enterMile_17 (by decide) (fun e4 => ?_) (fun e4 => ?_)
        · replace h := q_f e4 h
          refine lv_iinc (v := (v3.1 + 1)) (lv' := [(4, .int (v3.1 + 1)), (0, .ref (A b)), (1, .ref (A2 b2)), (2, .int p1), (3, .int p2)]) hx hb dX0_enterMile_30 hl (k := 4) rfl rfl (by decide) rfl (fun ls hl => ?_)
          refine lv_goto (tgt := 3) hx hb dX0_enterMile_33 (by decide) ?_
          exact ih3 ((v3.1 + 1), v3.2) h _ _ hW _ (lv_sub hl [1, 2, 3, 4, 0] rfl)
        · replace h := q_t e4 h
          refine lv_aload_n hx hb dX0_enterMile_20 rfl (lv_at hl 0 rfl) ?_
          refine r_get C hW (K := RX0) (T := TX0) (N := 1) (v := .ref (A (b + 1))) 0 0 0 rfl rfl rfl inX0_enterMile_X0 (by decide) (List.mem_of_getElem? (i := 1) rfl) rfl rfl dX0_enterMile_21 ?_
          refine lv_iload hx hb dX0_enterMile_24 (lv_at hl 4 rfl) ?_
          refine lv_sipush (v := 1000) hx hb dX0_enterMile_26 (by decide) ?_
          obtain ⟨g5, h⟩ := q_g h
          refine r_iast C hW (bs' := [[(A b, .inr (0, [.ref (A (b + 1))]))], [(A (b + 1), .inl (gI g, 3, .inl (upd v3.2 (v3.1).toNatClampNeg 1000)))], [(A2 b2, .inr (3, [.ref (A2 (b2 + 1)), .ref (A2 (b2 + 4)), .ref (A2 (b2 + 7)), .ref (A2 (b2 + 10)), .ref (A2 (b2 + 11)), .int y.2.2.2.2.2.1, .int y.2.2.2.2.2.2.1, .int y.2.2.2.2.2.2.2.1, .int y.2.2.2.2.2.2.2.2.1, .int y.2.2.2.2.2.2.2.2.2]))], wX4 g A2 (b2 + 1) y.1, wX4 g A2 (b2 + 4) y.2.1, wX4 g A2 (b2 + 7) y.2.2.1, [(A2 (b2 + 10), .inl (gI g, 3, .inl y.2.2.2.1))], [(A2 (b2 + 11), .inl (gI g, 2, .inl y.2.2.2.2.1))]]) 1 0 rfl rfl g5 dX0_enterMile_29 rfl (fun H locs hW => ?_)
          refine lv_iinc (v := (v3.1 + 1)) (lv' := [(4, .int (v3.1 + 1)), (0, .ref (A b)), (1, .ref (A2 b2)), (2, .int p1), (3, .int p2)]) hx hb dX0_enterMile_30 hl (k := 4) rfl rfl (by decide) rfl (fun ls hl => ?_)
          refine lv_goto (tgt := 3) hx hb dX0_enterMile_33 (by decide) ?_
          exact ih3 ((v3.1 + 1), (upd v3.2 (v3.1).toNatClampNeg 1000)) h _ _ hW _ (lv_sub hl [1, 2, 3, 4, 0] rfl)
  exact L3 3000 (0, x) h _ _ hW _ (lv_sub hl [1, 2, 3, 4, 0] rfl)
def f_X0_changeLane (x : TX0s) (y : TX3s) (p1 : Int32) (p2 : Int32) (p3 : Int32) (p4 : Int32) : Option (TX0s) :=
if p1 < 0 ∨ 3 ≤ (p1).toNatClampNeg then none else
if 1000 ≤ (x (p1).toNatClampNeg) then (
some x)
else (
(f_X3_allowsChange y p1 p2 p3 p4).bind fun t3 =>
if t3 = 0 then (
some x)
else (
if p2 < 0 ∨ 3 ≤ (p2).toNatClampNeg then none else
if p1 < 0 ∨ 3 ≤ (p1).toNatClampNeg then none else
if p2 < 0 ∨ 3 ≤ (p2).toNatClampNeg then none else
some (upd x (p2).toNatClampNeg (if ((x (p1).toNatClampNeg) + 1) < (x (p2).toNatClampNeg) then ((x (p1).toNatClampNeg) + 1) else (x (p2).toNatClampNeg)))))
theorem wo_X0_changeLane : wordsOk yX0_changeLane 5 := by decide +kernel
theorem inX0_changeLane_X0 : ∀ w ∈ wsX00, w ∈ wsX0_changeLane := fun _ h => List.mem_cons_of_mem _ (List.mem_append_left _ (List.mem_append_left _ (List.mem_append_right _ h)))
set_option maxHeartbeats 4000000 in
set_option maxRecDepth 100000 in
theorem c_X0_changeLane (l : Launch) (g : GG) (A : Nat → Nat) (b : Nat) (A2 : Nat → Nat) (b2 : Nat) (x : TX0s) (y : TX3s) (p1 : Int32) (p2 : Int32) (p3 : Int32) (p4 : Int32) (x' : TX0s) (h : f_X0_changeLane x y p1 p2 p3 p4 = some x') : CV l yX0_changeLane wsX0_changeLane 3 73 g [.ref (A b), .ref (A2 b2), .int p1, .int p2, .int p3, .int p4] (wX0 g A b x ++ wX3 g A2 b2 y) (wX0 g A b x' ++ wX3 g A2 b2 y) := by
  refine CV.mk (own := RX0) (by decide) rfl rfl (Nat.le_of_ble_eq_true rfl) ?_
  intro p e R s m args below meth c Z Q C E hR H hW ls hl
  have hx := C.1.1
  have hb := C.1.2.1
  have hown := C.1.2.2.2.1
  replace hW : WdG g Z s.heap H [] [[(A b, .inr (0, [.ref (A (b + 1))]))], [(A (b + 1), .inl (gI g, 3, .inl x))], [(A2 b2, .inr (3, [.ref (A2 (b2 + 1)), .ref (A2 (b2 + 4)), .ref (A2 (b2 + 7)), .ref (A2 (b2 + 10)), .ref (A2 (b2 + 11)), .int y.2.2.2.2.2.1, .int y.2.2.2.2.2.2.1, .int y.2.2.2.2.2.2.2.1, .int y.2.2.2.2.2.2.2.2.1, .int y.2.2.2.2.2.2.2.2.2]))], wX4 g A2 (b2 + 1) y.1, wX4 g A2 (b2 + 4) y.2.1, wX4 g A2 (b2 + 7) y.2.2.1, [(A2 (b2 + 10), .inl (gI g, 3, .inl y.2.2.2.1))], [(A2 (b2 + 11), .inl (gI g, 2, .inl y.2.2.2.2.1))]] := hW.re rfl
  replace hl : lv_has ls 6 [(0, .ref (A b)), (1, .ref (A2 b2)), (2, .int p1), (3, .int p2), (4, .int p3), (5, .int p4)] := hl
  unfold f_X0_changeLane at h
  refine lv_aload_n hx hb dX0_changeLane_0 rfl (lv_at hl 0 rfl) ?_
  refine r_get C hW (K := RX0) (T := TX0) (N := 1) (v := .ref (A (b + 1))) 0 0 0 rfl rfl rfl inX0_changeLane_X0 (by decide) (List.mem_of_getElem? (i := 1) rfl) rfl rfl dX0_changeLane_1 ?_
  refine lv_iload_n hx hb dX0_changeLane_4 rfl (lv_at hl 2 rfl) ?_
  obtain ⟨g1, h⟩ := q_g h
  refine r_iald C hW 1 0 rfl rfl g1 dX0_changeLane_5 ?_
  refine lv_sipush (v := 1000) hx hb dX0_changeLane_6 (by decide) ?_
  refine lv_icmp_ge (tgt := 48) hx hb dX0_changeLane_9 (by decide) (fun e2 => ?_) (fun e2 => ?_)
  · replace h := q_t e2 h
    cases h
    exact E _ _ _ _ _ hW rfl dX0_changeLane_48
  · replace h := q_f e2 h
    refine lv_aload_n hx hb dX0_changeLane_12 rfl (lv_at hl 1 rfl) ?_
    refine lv_iload_n hx hb dX0_changeLane_13 rfl (lv_at hl 2 rfl) ?_
    refine lv_iload_n hx hb dX0_changeLane_14 rfl (lv_at hl 3 rfl) ?_
    refine lv_iload hx hb dX0_changeLane_15 (lv_at hl 4 rfl) ?_
    refine lv_iload hx hb dX0_changeLane_17 (lv_at hl 5 rfl) ?_
    obtain ⟨t3, h4, h⟩ := q_b h
    refine r_cVi C hW (nA := 4) (As := [.int p1, .int p2, .int p3, .int p4]) (rest := []) (c_X3_allowsChange l g A2 b2 y p1 p2 p3 p4 _ h4) gX0_changeLane_X3_allowsChange rfl ⟨rfl, wo_X3_allowsChange⟩ (rmk hR rfl rfl) rfl rfl rfl rfl hl.1 (Nat.le_of_ble_eq_true rfl) rz dX0_changeLane_19 (n := 8) (is := [2, 3, 4, 5, 6, 7]) (rs := [0, 1]) (bs' := [[(A b, .inr (0, [.ref (A (b + 1))]))], [(A (b + 1), .inl (gI g, 3, .inl x))], [(A2 b2, .inr (3, [.ref (A2 (b2 + 1)), .ref (A2 (b2 + 4)), .ref (A2 (b2 + 7)), .ref (A2 (b2 + 10)), .ref (A2 (b2 + 11)), .int y.2.2.2.2.2.1, .int y.2.2.2.2.2.2.1, .int y.2.2.2.2.2.2.2.1, .int y.2.2.2.2.2.2.2.2.1, .int y.2.2.2.2.2.2.2.2.2]))], wX4 g A2 (b2 + 1) y.1, wX4 g A2 (b2 + 4) y.2.1, wX4 g A2 (b2 + 7) y.2.2.1, [(A2 (b2 + 10), .inl (gI g, 3, .inl y.2.2.2.1))], [(A2 (b2 + 11), .inl (gI g, 2, .inl y.2.2.2.2.1))]]) rfl rfl pm_09aa9c18 rfl rfl rfl (fun H locs hW => ?_)
    refine lv_if_eq (tgt := 48) hx hb dX0_changeLane_22 (by decide) (fun e5 => ?_) (fun e5 => ?_)
    · replace h := q_t e5 h
      cases h
      exact E _ _ _ _ _ hW rfl dX0_changeLane_48
    · replace h := q_f e5 h
      refine lv_aload_n hx hb dX0_changeLane_25 rfl (lv_at hl 0 rfl) ?_
      refine r_get C hW (K := RX0) (T := TX0) (N := 1) (v := .ref (A (b + 1))) 0 0 0 rfl rfl rfl inX0_changeLane_X0 (by decide) (List.mem_of_getElem? (i := 1) rfl) rfl rfl dX0_changeLane_26 ?_
      refine lv_iload_n hx hb dX0_changeLane_29 rfl (lv_at hl 3 rfl) ?_
      refine lv_aload_n hx hb dX0_changeLane_30 rfl (lv_at hl 0 rfl) ?_
      refine r_get C hW (K := RX0) (T := TX0) (N := 1) (v := .ref (A (b + 1))) 0 0 0 rfl rfl rfl inX0_changeLane_X0 (by decide) (List.mem_of_getElem? (i := 1) rfl) rfl rfl dX0_changeLane_31 ?_
      refine lv_iload_n hx hb dX0_changeLane_34 rfl (lv_at hl 3 rfl) ?_
      obtain ⟨g6, h⟩ := q_g h
      refine r_iald C hW 1 0 rfl rfl g6 dX0_changeLane_35 ?_
      refine lv_aload_n hx hb dX0_changeLane_36 rfl (lv_at hl 0 rfl) ?_
      refine r_get C hW (K := RX0) (T := TX0) (N := 1) (v := .ref (A (b + 1))) 0 0 0 rfl rfl rfl inX0_changeLane_X0 (by decide) (List.mem_of_getElem? (i := 1) rfl) rfl rfl dX0_changeLane_37 ?_
      refine lv_iload_n hx hb dX0_changeLane_40 rfl (lv_at hl 2 rfl) ?_
      obtain ⟨g7, h⟩ := q_g h
      refine r_iald C hW 1 0 rfl rfl g7 dX0_changeLane_41 ?_
      refine lv_iconst (v := 1) hx hb dX0_changeLane_42 (by decide) ?_
      refine lv_iadd hx hb dX0_changeLane_43 ?_
      refine r_min C hl.1 (List.mem_of_getElem? (i := 2) rfl) (List.mem_of_getElem? (i := 3) rfl) (List.mem_of_getElem? (i := 4) rfl) (List.mem_of_getElem? (i := 5) rfl) (rmk hR rfl rfl) rz dX0_changeLane_44 ?_
      obtain ⟨g8, h⟩ := q_g h
      refine r_iast C hW (bs' := [[(A b, .inr (0, [.ref (A (b + 1))]))], [(A (b + 1), .inl (gI g, 3, .inl (upd x (p2).toNatClampNeg (if ((x (p1).toNatClampNeg) + 1) < (x (p2).toNatClampNeg) then ((x (p1).toNatClampNeg) + 1) else (x (p2).toNatClampNeg)))))], [(A2 b2, .inr (3, [.ref (A2 (b2 + 1)), .ref (A2 (b2 + 4)), .ref (A2 (b2 + 7)), .ref (A2 (b2 + 10)), .ref (A2 (b2 + 11)), .int y.2.2.2.2.2.1, .int y.2.2.2.2.2.2.1, .int y.2.2.2.2.2.2.2.1, .int y.2.2.2.2.2.2.2.2.1, .int y.2.2.2.2.2.2.2.2.2]))], wX4 g A2 (b2 + 1) y.1, wX4 g A2 (b2 + 4) y.2.1, wX4 g A2 (b2 + 7) y.2.2.1, [(A2 (b2 + 10), .inl (gI g, 3, .inl y.2.2.2.1))], [(A2 (b2 + 11), .inl (gI g, 2, .inl y.2.2.2.2.1))]]) 1 0 rfl rfl g8 dX0_changeLane_47 rfl (fun H locs hW => ?_)
      cases h
      exact E _ _ _ _ _ hW rfl dX0_changeLane_48
def f_X0_changeLanes_l33 (y : TX3s) (p1 : Int32) (p2 : Int32) (k33 : (Int32 × TX0s) → Option (TX0s)) (v33 : Int32 × TX0s) : Option (TX0s) :=
if v33.1 ≤ 0 then (
some v33.2)
else (
(f_X0_changeLane v33.2 y v33.1 (v33.1 - 1) p1 p2).bind fun t3 =>
k33 ((v33.1 + (-1)), t3))
def f_X0_changeLanes_l3 (y : TX3s) (p1 : Int32) (p2 : Int32) (k3 : (Int32 × TX0s) → Option (TX0s)) (v3 : Int32 × TX0s) : Option (TX0s) :=
if 3 ≤ (v3.1 + 1) then (
lpN (f_X0_changeLanes_l33 y p1 p2) 3000 (2, v3.2))
else (
(f_X0_changeLane v3.2 y v3.1 (v3.1 + 1) p1 p2).bind fun t5 =>
k3 ((v3.1 + 1), t5))
def f_X0_changeLanes (x : TX0s) (y : TX3s) (p1 : Int32) (p2 : Int32) : Option (TX0s) :=
lpN (f_X0_changeLanes_l3 y p1 p2) 3000 (0, x)
theorem wo_X0_changeLanes : wordsOk yX0_changeLanes 3 := by decide +kernel
set_option maxHeartbeats 4000000 in
set_option maxRecDepth 100000 in
theorem c_X0_changeLanes (l : Launch) (g : GG) (A : Nat → Nat) (b : Nat) (A2 : Nat → Nat) (b2 : Nat) (x : TX0s) (y : TX3s) (p1 : Int32) (p2 : Int32) (x' : TX0s) (h : f_X0_changeLanes x y p1 p2 = some x') : CV l yX0_changeLanes wsX0_changeLanes 4 98 g [.ref (A b), .ref (A2 b2), .int p1, .int p2] (wX0 g A b x ++ wX3 g A2 b2 y) (wX0 g A b x' ++ wX3 g A2 b2 y) := by
  refine CV.mk (own := RX0) (by decide) rfl rfl (Nat.le_of_ble_eq_true rfl) ?_
  intro p e R s m args below meth c Z Q C E hR H hW ls hl
  have hx := C.1.1
  have hb := C.1.2.1
  have hown := C.1.2.2.2.1
  replace hW : WdG g Z s.heap H [] [[(A b, .inr (0, [.ref (A (b + 1))]))], [(A (b + 1), .inl (gI g, 3, .inl x))], [(A2 b2, .inr (3, [.ref (A2 (b2 + 1)), .ref (A2 (b2 + 4)), .ref (A2 (b2 + 7)), .ref (A2 (b2 + 10)), .ref (A2 (b2 + 11)), .int y.2.2.2.2.2.1, .int y.2.2.2.2.2.2.1, .int y.2.2.2.2.2.2.2.1, .int y.2.2.2.2.2.2.2.2.1, .int y.2.2.2.2.2.2.2.2.2]))], wX4 g A2 (b2 + 1) y.1, wX4 g A2 (b2 + 4) y.2.1, wX4 g A2 (b2 + 7) y.2.2.1, [(A2 (b2 + 10), .inl (gI g, 3, .inl y.2.2.2.1))], [(A2 (b2 + 11), .inl (gI g, 2, .inl y.2.2.2.2.1))]] := hW.re rfl
  replace hl : lv_has ls 5 [(0, .ref (A b)), (1, .ref (A2 b2)), (2, .int p1), (3, .int p2)] := hl
  unfold f_X0_changeLanes at h
  refine lv_iconst (v := 0) hx hb dX0_changeLanes_0 (by decide) ?_
  refine lv_istore (lv' := [(4, .int 0), (0, .ref (A b)), (1, .ref (A2 b2)), (2, .int p1), (3, .int p2)]) hx hb dX0_changeLanes_1 hl (by decide) rfl (fun ls hl => ?_)
  have L3 : ∀ n3 : Nat, ∀ (v3 : Int32 × TX0s), lpN (f_X0_changeLanes_l3 y p1 p2) n3 v3 = some x' → ∀ (H : Heap) (locs : List Loc), WdG g Z s.heap H locs [[(A b, .inr (0, [.ref (A (b + 1))]))], [(A (b + 1), .inl (gI g, 3, .inl v3.2))], [(A2 b2, .inr (3, [.ref (A2 (b2 + 1)), .ref (A2 (b2 + 4)), .ref (A2 (b2 + 7)), .ref (A2 (b2 + 10)), .ref (A2 (b2 + 11)), .int y.2.2.2.2.2.1, .int y.2.2.2.2.2.2.1, .int y.2.2.2.2.2.2.2.1, .int y.2.2.2.2.2.2.2.2.1, .int y.2.2.2.2.2.2.2.2.2]))], wX4 g A2 (b2 + 1) y.1, wX4 g A2 (b2 + 4) y.2.1, wX4 g A2 (b2 + 7) y.2.2.1, [(A2 (b2 + 10), .inl (gI g, 3, .inl y.2.2.2.1))], [(A2 (b2 + 11), .inl (gI g, 2, .inl y.2.2.2.2.1))]] → ∀ ls : Array Slot, lv_has ls 5 [(0, .ref (A b)), (1, .ref (A2 b2)), (2, .int p1), (3, .int p2), (4, .int v3.1)] → W p l e R s m args below meth c H locs 0 0 Q (F0 m 3 ls []) := by
    intro n3
    induction n3 with
    | zero => intro v3 h; exact absurd (show none = some x' from h) (fun h => by cases h)
    | succ n3 ih3 =>
      intro v3 h H locs hW ls hl
      replace h : f_X0_changeLanes_l3 y p1 p2 (lpN (f_X0_changeLanes_l3 y p1 p2) n3) v3 = some x' := h
      unfold f_X0_changeLanes_l3 at h
      refine lv_iload hx hb dX0_changeLanes_3 (lv_at hl 4 rfl) ?_
      refine lv_iconst (v := 1) hx hb dX0_changeLanes_5 (by decide) ?_
      refine lv_iadd hx hb dX0_changeLanes_6 ?_
      refine lv_iconst (v := 3) hx hb dX0_changeLanes_7 (by decide) ?_
      refine lv_icmp_ge (tgt := 30) hx hb dX0_changeLanes_8 (by decide) (fun e1 => ?_) (fun e1 => ?_)
      · replace h := q_t e1 h
        refine lv_iconst (v := 2) hx hb dX0_changeLanes_30 (by decide) ?_
        refine lv_istore (lv' := [(4, .int 2), (0, .ref (A b)), (1, .ref (A2 b2)), (2, .int p1), (3, .int p2)]) hx hb dX0_changeLanes_31 hl (by decide) rfl (fun ls hl => ?_)
        have L33 : ∀ n33 : Nat, ∀ (v33 : Int32 × TX0s), lpN (f_X0_changeLanes_l33 y p1 p2) n33 v33 = some x' → ∀ (H : Heap) (locs : List Loc), WdG g Z s.heap H locs [[(A b, .inr (0, [.ref (A (b + 1))]))], [(A (b + 1), .inl (gI g, 3, .inl v33.2))], [(A2 b2, .inr (3, [.ref (A2 (b2 + 1)), .ref (A2 (b2 + 4)), .ref (A2 (b2 + 7)), .ref (A2 (b2 + 10)), .ref (A2 (b2 + 11)), .int y.2.2.2.2.2.1, .int y.2.2.2.2.2.2.1, .int y.2.2.2.2.2.2.2.1, .int y.2.2.2.2.2.2.2.2.1, .int y.2.2.2.2.2.2.2.2.2]))], wX4 g A2 (b2 + 1) y.1, wX4 g A2 (b2 + 4) y.2.1, wX4 g A2 (b2 + 7) y.2.2.1, [(A2 (b2 + 10), .inl (gI g, 3, .inl y.2.2.2.1))], [(A2 (b2 + 11), .inl (gI g, 2, .inl y.2.2.2.2.1))]] → ∀ ls : Array Slot, lv_has ls 5 [(0, .ref (A b)), (1, .ref (A2 b2)), (2, .int p1), (3, .int p2), (4, .int v33.1)] → W p l e R s m args below meth c H locs 0 0 Q (F0 m 33 ls []) := by
          intro n33
          induction n33 with
          | zero => intro v33 h; exact absurd (show none = some x' from h) (fun h => by cases h)
          | succ n33 ih33 =>
            intro v33 h H locs hW ls hl
            replace h : f_X0_changeLanes_l33 y p1 p2 (lpN (f_X0_changeLanes_l33 y p1 p2) n33) v33 = some x' := h
            unfold f_X0_changeLanes_l33 at h
            refine lv_iload hx hb dX0_changeLanes_33 (lv_at hl 4 rfl) ?_
            refine lv_if_le (tgt := 57) hx hb dX0_changeLanes_35 (by decide) (fun e2 => ?_) (fun e2 => ?_)
            · replace h := q_t e2 h
              cases h
              exact E _ _ _ _ _ hW rfl dX0_changeLanes_57
            · replace h := q_f e2 h
              refine lv_aload_n hx hb dX0_changeLanes_38 rfl (lv_at hl 0 rfl) ?_
              refine lv_aload_n hx hb dX0_changeLanes_39 rfl (lv_at hl 1 rfl) ?_
              refine lv_iload hx hb dX0_changeLanes_40 (lv_at hl 4 rfl) ?_
              refine lv_iload hx hb dX0_changeLanes_42 (lv_at hl 4 rfl) ?_
              refine lv_iconst (v := 1) hx hb dX0_changeLanes_44 (by decide) ?_
              refine lv_isub hx hb dX0_changeLanes_45 ?_
              refine lv_iload_n hx hb dX0_changeLanes_46 rfl (lv_at hl 2 rfl) ?_
              refine lv_iload_n hx hb dX0_changeLanes_47 rfl (lv_at hl 3 rfl) ?_
              obtain ⟨t3, h4, h⟩ := q_b h
              refine r_cVv C hW (nA := 5) (As := [.ref (A2 b2), .int v33.1, .int (v33.1 - 1), .int p1, .int p2]) (rest := []) (c_X0_changeLane l g A b A2 b2 v33.2 y v33.1 (v33.1 - 1) p1 p2 _ h4) gX0_changeLanes_X0_changeLane rfl ⟨rfl, wo_X0_changeLane⟩ (rmk hR rfl rfl) rfl rfl rfl rfl hl.1 (Nat.le_of_ble_eq_true rfl) rz dX0_changeLanes_48 (n := 8) (is := [0, 1, 2, 3, 4, 5, 6, 7]) (rs := []) (bs' := [[(A b, .inr (0, [.ref (A (b + 1))]))], [(A (b + 1), .inl (gI g, 3, .inl t3))], [(A2 b2, .inr (3, [.ref (A2 (b2 + 1)), .ref (A2 (b2 + 4)), .ref (A2 (b2 + 7)), .ref (A2 (b2 + 10)), .ref (A2 (b2 + 11)), .int y.2.2.2.2.2.1, .int y.2.2.2.2.2.2.1, .int y.2.2.2.2.2.2.2.1, .int y.2.2.2.2.2.2.2.2.1, .int y.2.2.2.2.2.2.2.2.2]))], wX4 g A2 (b2 + 1) y.1, wX4 g A2 (b2 + 4) y.2.1, wX4 g A2 (b2 + 7) y.2.2.1, [(A2 (b2 + 10), .inl (gI g, 3, .inl y.2.2.2.1))], [(A2 (b2 + 11), .inl (gI g, 2, .inl y.2.2.2.2.1))]]) rfl rfl pm_fc798770 rfl rfl rfl (fun H locs hW => ?_)
              refine lv_iinc (v := (v33.1 + (-1))) (lv' := [(4, .int (v33.1 + (-1))), (0, .ref (A b)), (1, .ref (A2 b2)), (2, .int p1), (3, .int p2)]) hx hb dX0_changeLanes_51 hl (k := 4) rfl rfl (by decide) rfl (fun ls hl => ?_)
              refine lv_goto (tgt := 33) hx hb dX0_changeLanes_54 (by decide) ?_
              exact ih33 ((v33.1 + (-1)), t3) h _ _ hW _ (lv_sub hl [1, 2, 3, 4, 0] rfl)
        exact L33 3000 (2, v3.2) h _ _ hW _ (lv_sub hl [1, 2, 3, 4, 0] rfl)
      · replace h := q_f e1 h
        refine lv_aload_n hx hb dX0_changeLanes_11 rfl (lv_at hl 0 rfl) ?_
        refine lv_aload_n hx hb dX0_changeLanes_12 rfl (lv_at hl 1 rfl) ?_
        refine lv_iload hx hb dX0_changeLanes_13 (lv_at hl 4 rfl) ?_
        refine lv_iload hx hb dX0_changeLanes_15 (lv_at hl 4 rfl) ?_
        refine lv_iconst (v := 1) hx hb dX0_changeLanes_17 (by decide) ?_
        refine lv_iadd hx hb dX0_changeLanes_18 ?_
        refine lv_iload_n hx hb dX0_changeLanes_19 rfl (lv_at hl 2 rfl) ?_
        refine lv_iload_n hx hb dX0_changeLanes_20 rfl (lv_at hl 3 rfl) ?_
        obtain ⟨t5, h6, h⟩ := q_b h
        refine r_cVv C hW (nA := 5) (As := [.ref (A2 b2), .int v3.1, .int (v3.1 + 1), .int p1, .int p2]) (rest := []) (c_X0_changeLane l g A b A2 b2 v3.2 y v3.1 (v3.1 + 1) p1 p2 _ h6) gX0_changeLanes_X0_changeLane rfl ⟨rfl, wo_X0_changeLane⟩ (rmk hR rfl rfl) rfl rfl rfl rfl hl.1 (Nat.le_of_ble_eq_true rfl) rz dX0_changeLanes_21 (n := 8) (is := [0, 1, 2, 3, 4, 5, 6, 7]) (rs := []) (bs' := [[(A b, .inr (0, [.ref (A (b + 1))]))], [(A (b + 1), .inl (gI g, 3, .inl t5))], [(A2 b2, .inr (3, [.ref (A2 (b2 + 1)), .ref (A2 (b2 + 4)), .ref (A2 (b2 + 7)), .ref (A2 (b2 + 10)), .ref (A2 (b2 + 11)), .int y.2.2.2.2.2.1, .int y.2.2.2.2.2.2.1, .int y.2.2.2.2.2.2.2.1, .int y.2.2.2.2.2.2.2.2.1, .int y.2.2.2.2.2.2.2.2.2]))], wX4 g A2 (b2 + 1) y.1, wX4 g A2 (b2 + 4) y.2.1, wX4 g A2 (b2 + 7) y.2.2.1, [(A2 (b2 + 10), .inl (gI g, 3, .inl y.2.2.2.1))], [(A2 (b2 + 11), .inl (gI g, 2, .inl y.2.2.2.2.1))]]) rfl rfl pm_fc798770 rfl rfl rfl (fun H locs hW => ?_)
        refine lv_iinc (v := (v3.1 + 1)) (lv' := [(4, .int (v3.1 + 1)), (0, .ref (A b)), (1, .ref (A2 b2)), (2, .int p1), (3, .int p2)]) hx hb dX0_changeLanes_24 hl (k := 4) rfl rfl (by decide) rfl (fun ls hl => ?_)
        refine lv_goto (tgt := 3) hx hb dX0_changeLanes_27 (by decide) ?_
        exact ih3 ((v3.1 + 1), t5) h _ _ hW _ (lv_sub hl [1, 2, 3, 4, 0] rfl)
  exact L3 3000 (0, x) h _ _ hW _ (lv_sub hl [1, 2, 3, 4, 0] rfl)
def f_X0_driveAlong_l91 (v38 : Int32 × TX0s) (k91 : (Int32 × Int32) → Option (Int32 × TX0s)) (v91 : Int32 × Int32) : Option (Int32 × TX0s) :=
if 3 ≤ v91.2 then (
if v91.1 = 1000 then (
some ((-6), v38.2))
else (
some (v91.1, v38.2)))
else (
if v91.2 < 0 ∨ 3 ≤ (v91.2).toNatClampNeg then none else
k91 ((if (v38.2 (v91.2).toNatClampNeg) < v91.1 then (v38.2 (v91.2).toNatClampNeg) else v91.1), (v91.2 + 1)))
def f_X0_driveAlong_j59 (y : TX3s) (p1 : Int32) (k38 : (Int32 × TX0s) → Option (Int32 × TX0s)) (v38 : Int32 × TX0s) (w59 : Int32) : Option (Int32 × TX0s) :=
(f_X0_enterMile v38.2 y w59 p1).bind fun t6 =>
(f_X0_changeLanes t6 y w59 p1).bind fun t8 =>
k38 ((v38.1 + 1), t8)
def f_X0_driveAlong_l38 (y : TX3s) (p1 : Int32) (k38 : (Int32 × TX0s) → Option (Int32 × TX0s)) (v38 : Int32 × TX0s) : Option (Int32 × TX0s) :=
if 16 ≤ v38.1 then (
lpN (f_X0_driveAlong_l91 v38) 3000 (1000, 0))
else (
if p1 = 0 then (
f_X0_driveAlong_j59 y p1 k38 v38 v38.1)
else (
f_X0_driveAlong_j59 y p1 k38 v38 (15 - v38.1)))
def f_X0_driveAlong_l3 (y : TX3s) (p1 : Int32) (p2 : Int32) (k3 : (Int32 × TX0s) → Option (Int32 × TX0s)) (v3 : Int32 × TX0s) : Option (Int32 × TX0s) :=
if 3 ≤ v3.1 then (
lpN (f_X0_driveAlong_l38 y p1) 3000 (0, v3.2))
else (
if v3.1 = p2 then (
if v3.1 < 0 ∨ 3 ≤ (v3.1).toNatClampNeg then none else
k3 ((v3.1 + 1), (upd v3.2 (v3.1).toNatClampNeg 0)))
else (
if v3.1 < 0 ∨ 3 ≤ (v3.1).toNatClampNeg then none else
k3 ((v3.1 + 1), (upd v3.2 (v3.1).toNatClampNeg 1000))))
def f_X0_driveAlong (x : TX0s) (y : TX3s) (p1 : Int32) (p2 : Int32) : Option (Int32 × TX0s) :=
lpN (f_X0_driveAlong_l3 y p1 p2) 3000 (0, x)
theorem wo_X0_driveAlong : wordsOk yX0_driveAlong 3 := by decide +kernel
theorem inX0_driveAlong_X0 : ∀ w ∈ wsX00, w ∈ wsX0_driveAlong := fun _ h => List.mem_cons_of_mem _ (List.mem_append_left _ (List.mem_append_left _ (List.mem_append_right _ h)))
set_option maxHeartbeats 4000000 in
set_option maxRecDepth 100000 in
theorem c_X0_driveAlong (l : Launch) (g : GG) (A : Nat → Nat) (b : Nat) (A2 : Nat → Nat) (b2 : Nat) (x : TX0s) (y : TX3s) (p1 : Int32) (p2 : Int32) (r : Int32) (x' : TX0s) (h : f_X0_driveAlong x y p1 p2 = some (r, x')) : CI l yX0_driveAlong wsX0_driveAlong 5 122 g [.ref (A b), .ref (A2 b2), .int p1, .int p2] (wX0 g A b x ++ wX3 g A2 b2 y) r (wX0 g A b x' ++ wX3 g A2 b2 y) := by
  refine CI.mk (own := RX0) (by decide) rfl rfl (Nat.le_of_ble_eq_true rfl) ?_
  intro p e R s m args below meth c Z Q C E hR H hW ls hl
  have hx := C.1.1
  have hb := C.1.2.1
  have hown := C.1.2.2.2.1
  replace hW : WdG g Z s.heap H [] [[(A b, .inr (0, [.ref (A (b + 1))]))], [(A (b + 1), .inl (gI g, 3, .inl x))], [(A2 b2, .inr (3, [.ref (A2 (b2 + 1)), .ref (A2 (b2 + 4)), .ref (A2 (b2 + 7)), .ref (A2 (b2 + 10)), .ref (A2 (b2 + 11)), .int y.2.2.2.2.2.1, .int y.2.2.2.2.2.2.1, .int y.2.2.2.2.2.2.2.1, .int y.2.2.2.2.2.2.2.2.1, .int y.2.2.2.2.2.2.2.2.2]))], wX4 g A2 (b2 + 1) y.1, wX4 g A2 (b2 + 4) y.2.1, wX4 g A2 (b2 + 7) y.2.2.1, [(A2 (b2 + 10), .inl (gI g, 3, .inl y.2.2.2.1))], [(A2 (b2 + 11), .inl (gI g, 2, .inl y.2.2.2.2.1))]] := hW.re rfl
  replace hl : lv_has ls 6 [(0, .ref (A b)), (1, .ref (A2 b2)), (2, .int p1), (3, .int p2)] := hl
  unfold f_X0_driveAlong at h
  refine lv_iconst (v := 0) hx hb dX0_driveAlong_0 (by decide) ?_
  refine lv_istore (lv' := [(4, .int 0), (0, .ref (A b)), (1, .ref (A2 b2)), (2, .int p1), (3, .int p2)]) hx hb dX0_driveAlong_1 hl (by decide) rfl (fun ls hl => ?_)
  have L3 : ∀ n3 : Nat, ∀ (v3 : Int32 × TX0s), lpN (f_X0_driveAlong_l3 y p1 p2) n3 v3 = some (r, x') → ∀ (H : Heap) (locs : List Loc), WdG g Z s.heap H locs [[(A b, .inr (0, [.ref (A (b + 1))]))], [(A (b + 1), .inl (gI g, 3, .inl v3.2))], [(A2 b2, .inr (3, [.ref (A2 (b2 + 1)), .ref (A2 (b2 + 4)), .ref (A2 (b2 + 7)), .ref (A2 (b2 + 10)), .ref (A2 (b2 + 11)), .int y.2.2.2.2.2.1, .int y.2.2.2.2.2.2.1, .int y.2.2.2.2.2.2.2.1, .int y.2.2.2.2.2.2.2.2.1, .int y.2.2.2.2.2.2.2.2.2]))], wX4 g A2 (b2 + 1) y.1, wX4 g A2 (b2 + 4) y.2.1, wX4 g A2 (b2 + 7) y.2.2.1, [(A2 (b2 + 10), .inl (gI g, 3, .inl y.2.2.2.1))], [(A2 (b2 + 11), .inl (gI g, 2, .inl y.2.2.2.2.1))]] → ∀ ls : Array Slot, lv_has ls 6 [(0, .ref (A b)), (1, .ref (A2 b2)), (2, .int p1), (3, .int p2), (4, .int v3.1)] → W p l e R s m args below meth c H locs 0 0 Q (F0 m 3 ls []) := by
    intro n3
    induction n3 with
    | zero => intro v3 h; exact absurd (show none = some (r, x') from h) (fun h => by cases h)
    | succ n3 ih3 =>
      intro v3 h H locs hW ls hl
      replace h : f_X0_driveAlong_l3 y p1 p2 (lpN (f_X0_driveAlong_l3 y p1 p2) n3) v3 = some (r, x') := h
      unfold f_X0_driveAlong_l3 at h
      refine lv_iload hx hb dX0_driveAlong_3 (lv_at hl 4 rfl) ?_
      refine lv_iconst (v := 3) hx hb dX0_driveAlong_5 (by decide) ?_
      refine lv_icmp_ge (tgt := 35) hx hb dX0_driveAlong_6 (by decide) (fun e1 => ?_) (fun e1 => ?_)
      · replace h := q_t e1 h
        refine lv_iconst (v := 0) hx hb dX0_driveAlong_35 (by decide) ?_
        refine lv_istore (lv' := [(4, .int 0), (0, .ref (A b)), (1, .ref (A2 b2)), (2, .int p1), (3, .int p2)]) hx hb dX0_driveAlong_36 hl (by decide) rfl (fun ls hl => ?_)
        have L38 : ∀ n38 : Nat, ∀ (v38 : Int32 × TX0s), lpN (f_X0_driveAlong_l38 y p1) n38 v38 = some (r, x') → ∀ (H : Heap) (locs : List Loc), WdG g Z s.heap H locs [[(A b, .inr (0, [.ref (A (b + 1))]))], [(A (b + 1), .inl (gI g, 3, .inl v38.2))], [(A2 b2, .inr (3, [.ref (A2 (b2 + 1)), .ref (A2 (b2 + 4)), .ref (A2 (b2 + 7)), .ref (A2 (b2 + 10)), .ref (A2 (b2 + 11)), .int y.2.2.2.2.2.1, .int y.2.2.2.2.2.2.1, .int y.2.2.2.2.2.2.2.1, .int y.2.2.2.2.2.2.2.2.1, .int y.2.2.2.2.2.2.2.2.2]))], wX4 g A2 (b2 + 1) y.1, wX4 g A2 (b2 + 4) y.2.1, wX4 g A2 (b2 + 7) y.2.2.1, [(A2 (b2 + 10), .inl (gI g, 3, .inl y.2.2.2.1))], [(A2 (b2 + 11), .inl (gI g, 2, .inl y.2.2.2.2.1))]] → ∀ ls : Array Slot, lv_has ls 6 [(0, .ref (A b)), (1, .ref (A2 b2)), (2, .int p1), (4, .int v38.1)] → W p l e R s m args below meth c H locs 0 0 Q (F0 m 38 ls []) := by
          intro n38
          induction n38 with
          | zero => intro v38 h; exact absurd (show none = some (r, x') from h) (fun h => by cases h)
          | succ n38 ih38 =>
            intro v38 h H locs hW ls hl
            replace h : f_X0_driveAlong_l38 y p1 (lpN (f_X0_driveAlong_l38 y p1) n38) v38 = some (r, x') := h
            unfold f_X0_driveAlong_l38 at h
            refine lv_iload hx hb dX0_driveAlong_38 (lv_at hl 3 rfl) ?_
            refine lv_bipush (v := 16) hx hb dX0_driveAlong_40 (by decide) ?_
            refine lv_icmp_ge (tgt := 83) hx hb dX0_driveAlong_42 (by decide) (fun e2 => ?_) (fun e2 => ?_)
            · replace h := q_t e2 h
              refine lv_sipush (v := 1000) hx hb dX0_driveAlong_83 (by decide) ?_
              refine lv_istore (lv' := [(4, .int 1000), (0, .ref (A b)), (1, .ref (A2 b2)), (2, .int p1)]) hx hb dX0_driveAlong_86 hl (by decide) rfl (fun ls hl => ?_)
              refine lv_iconst (v := 0) hx hb dX0_driveAlong_88 (by decide) ?_
              refine lv_istore (lv' := [(5, .int 0), (4, .int 1000), (0, .ref (A b)), (1, .ref (A2 b2)), (2, .int p1)]) hx hb dX0_driveAlong_89 hl (by decide) rfl (fun ls hl => ?_)
              have L91 : ∀ n91 : Nat, ∀ (v91 : Int32 × Int32), lpN (f_X0_driveAlong_l91 v38) n91 v91 = some (r, x') → ∀ (H : Heap) (locs : List Loc), WdG g Z s.heap H locs [[(A b, .inr (0, [.ref (A (b + 1))]))], [(A (b + 1), .inl (gI g, 3, .inl v38.2))], [(A2 b2, .inr (3, [.ref (A2 (b2 + 1)), .ref (A2 (b2 + 4)), .ref (A2 (b2 + 7)), .ref (A2 (b2 + 10)), .ref (A2 (b2 + 11)), .int y.2.2.2.2.2.1, .int y.2.2.2.2.2.2.1, .int y.2.2.2.2.2.2.2.1, .int y.2.2.2.2.2.2.2.2.1, .int y.2.2.2.2.2.2.2.2.2]))], wX4 g A2 (b2 + 1) y.1, wX4 g A2 (b2 + 4) y.2.1, wX4 g A2 (b2 + 7) y.2.2.1, [(A2 (b2 + 10), .inl (gI g, 3, .inl y.2.2.2.1))], [(A2 (b2 + 11), .inl (gI g, 2, .inl y.2.2.2.2.1))]] → ∀ ls : Array Slot, lv_has ls 6 [(0, .ref (A b)), (4, .int v91.1), (5, .int v91.2)] → W p l e R s m args below meth c H locs 0 0 Q (F0 m 91 ls []) := by
                intro n91
                induction n91 with
                | zero => intro v91 h; exact absurd (show none = some (r, x') from h) (fun h => by cases h)
                | succ n91 ih91 =>
                  intro v91 h H locs hW ls hl
                  replace h : f_X0_driveAlong_l91 v38 (lpN (f_X0_driveAlong_l91 v38) n91) v91 = some (r, x') := h
                  unfold f_X0_driveAlong_l91 at h
                  refine lv_iload hx hb dX0_driveAlong_91 (lv_at hl 2 rfl) ?_
                  refine lv_iconst (v := 3) hx hb dX0_driveAlong_93 (by decide) ?_
                  refine lv_icmp_ge (tgt := 117) hx hb dX0_driveAlong_94 (by decide) (fun e3 => ?_) (fun e3 => ?_)
                  · replace h := q_t e3 h
                    refine lv_iload hx hb dX0_driveAlong_117 (lv_at hl 1 rfl) ?_
                    refine lv_sipush (v := 1000) hx hb dX0_driveAlong_119 (by decide) ?_
                    refine lv_icmp_ne (tgt := 130) hx hb dX0_driveAlong_122 (by decide) (fun e4 => ?_) (fun e4 => ?_)
                    · replace h := q_f e4 h
                      refine lv_iload hx hb dX0_driveAlong_130 (lv_at hl 1 rfl) ?_
                      cases h
                      exact E _ _ _ _ _ hW rfl rfl dX0_driveAlong_132
                    · replace h := q_t e4 h
                      refine lv_bipush (v := (-6)) hx hb dX0_driveAlong_125 (by decide) ?_
                      refine lv_goto (tgt := 132) hx hb dX0_driveAlong_127 (by decide) ?_
                      cases h
                      exact E _ _ _ _ _ hW rfl rfl dX0_driveAlong_132
                  · replace h := q_f e3 h
                    refine lv_iload hx hb dX0_driveAlong_97 (lv_at hl 1 rfl) ?_
                    refine lv_aload_n hx hb dX0_driveAlong_99 rfl (lv_at hl 0 rfl) ?_
                    refine r_get C hW (K := RX0) (T := TX0) (N := 1) (v := .ref (A (b + 1))) 0 0 0 rfl rfl rfl inX0_driveAlong_X0 (by decide) (List.mem_of_getElem? (i := 1) rfl) rfl rfl dX0_driveAlong_100 ?_
                    refine lv_iload hx hb dX0_driveAlong_103 (lv_at hl 2 rfl) ?_
                    obtain ⟨g5, h⟩ := q_g h
                    refine r_iald C hW 1 0 rfl rfl g5 dX0_driveAlong_105 ?_
                    refine r_min C hl.1 (List.mem_of_getElem? (i := 2) rfl) (List.mem_of_getElem? (i := 3) rfl) (List.mem_of_getElem? (i := 4) rfl) (List.mem_of_getElem? (i := 5) rfl) (rmk hR rfl rfl) rz dX0_driveAlong_106 ?_
                    refine lv_istore (lv' := [(4, .int (if (v38.2 (v91.2).toNatClampNeg) < v91.1 then (v38.2 (v91.2).toNatClampNeg) else v91.1)), (0, .ref (A b)), (5, .int v91.2)]) hx hb dX0_driveAlong_109 hl (by decide) rfl (fun ls hl => ?_)
                    refine lv_iinc (v := (v91.2 + 1)) (lv' := [(5, .int (v91.2 + 1)), (4, .int (if (v38.2 (v91.2).toNatClampNeg) < v91.1 then (v38.2 (v91.2).toNatClampNeg) else v91.1)), (0, .ref (A b))]) hx hb dX0_driveAlong_111 hl (k := 2) rfl rfl (by decide) rfl (fun ls hl => ?_)
                    refine lv_goto (tgt := 91) hx hb dX0_driveAlong_114 (by decide) ?_
                    exact ih91 ((if (v38.2 (v91.2).toNatClampNeg) < v91.1 then (v38.2 (v91.2).toNatClampNeg) else v91.1), (v91.2 + 1)) h _ _ hW _ (lv_sub hl [2, 1, 0] rfl)
              exact L91 3000 (1000, 0) h _ _ hW _ (lv_sub hl [2, 1, 0] rfl)
            · replace h := q_f e2 h
              refine lv_iload_n hx hb dX0_driveAlong_45 rfl (lv_at hl 2 rfl) ?_
              have J59 : ∀ (w59 : Int32), f_X0_driveAlong_j59 y p1 (lpN (f_X0_driveAlong_l38 y p1) n38) v38 w59 = some (r, x') → ∀ (H : Heap) (locs : List Loc), WdG g Z s.heap H locs [[(A b, .inr (0, [.ref (A (b + 1))]))], [(A (b + 1), .inl (gI g, 3, .inl v38.2))], [(A2 b2, .inr (3, [.ref (A2 (b2 + 1)), .ref (A2 (b2 + 4)), .ref (A2 (b2 + 7)), .ref (A2 (b2 + 10)), .ref (A2 (b2 + 11)), .int y.2.2.2.2.2.1, .int y.2.2.2.2.2.2.1, .int y.2.2.2.2.2.2.2.1, .int y.2.2.2.2.2.2.2.2.1, .int y.2.2.2.2.2.2.2.2.2]))], wX4 g A2 (b2 + 1) y.1, wX4 g A2 (b2 + 4) y.2.1, wX4 g A2 (b2 + 7) y.2.2.1, [(A2 (b2 + 10), .inl (gI g, 3, .inl y.2.2.2.1))], [(A2 (b2 + 11), .inl (gI g, 2, .inl y.2.2.2.2.1))]] → ∀ ls : Array Slot, lv_has ls 6 [(0, .ref (A b)), (1, .ref (A2 b2)), (2, .int p1), (4, .int v38.1)] → W p l e R s m args below meth c H locs 0 0 Q (F0 m 59 ls [.int w59]) := by
                intro w59 h H locs hW ls hl
                unfold f_X0_driveAlong_j59 at h
                refine lv_istore (lv' := [(5, .int w59), (0, .ref (A b)), (1, .ref (A2 b2)), (2, .int p1), (4, .int v38.1)]) hx hb dX0_driveAlong_59 hl (by decide) rfl (fun ls hl => ?_)
                refine lv_aload_n hx hb dX0_driveAlong_61 rfl (lv_at hl 1 rfl) ?_
                refine lv_aload_n hx hb dX0_driveAlong_62 rfl (lv_at hl 2 rfl) ?_
                refine lv_iload hx hb dX0_driveAlong_63 (lv_at hl 0 rfl) ?_
                refine lv_iload_n hx hb dX0_driveAlong_65 rfl (lv_at hl 3 rfl) ?_
                obtain ⟨t6, h7, h⟩ := q_b h
                refine r_cVv C hW (nA := 3) (As := [.ref (A2 b2), .int w59, .int p1]) (rest := []) (c_X0_enterMile l g A b A2 b2 v38.2 y w59 p1 _ h7) gX0_driveAlong_X0_enterMile rfl ⟨rfl, wo_X0_enterMile⟩ (rmk hR rfl rfl) rfl rfl rfl rfl hl.1 (Nat.le_of_ble_eq_true rfl) rz dX0_driveAlong_66 (n := 8) (is := [0, 1, 2, 3, 4, 5, 6, 7]) (rs := []) (bs' := [[(A b, .inr (0, [.ref (A (b + 1))]))], [(A (b + 1), .inl (gI g, 3, .inl t6))], [(A2 b2, .inr (3, [.ref (A2 (b2 + 1)), .ref (A2 (b2 + 4)), .ref (A2 (b2 + 7)), .ref (A2 (b2 + 10)), .ref (A2 (b2 + 11)), .int y.2.2.2.2.2.1, .int y.2.2.2.2.2.2.1, .int y.2.2.2.2.2.2.2.1, .int y.2.2.2.2.2.2.2.2.1, .int y.2.2.2.2.2.2.2.2.2]))], wX4 g A2 (b2 + 1) y.1, wX4 g A2 (b2 + 4) y.2.1, wX4 g A2 (b2 + 7) y.2.2.1, [(A2 (b2 + 10), .inl (gI g, 3, .inl y.2.2.2.1))], [(A2 (b2 + 11), .inl (gI g, 2, .inl y.2.2.2.2.1))]]) rfl rfl pm_fc798770 rfl rfl rfl (fun H locs hW => ?_)
                refine lv_aload_n hx hb dX0_driveAlong_69 rfl (lv_at hl 1 rfl) ?_
                refine lv_aload_n hx hb dX0_driveAlong_70 rfl (lv_at hl 2 rfl) ?_
                refine lv_iload hx hb dX0_driveAlong_71 (lv_at hl 0 rfl) ?_
                refine lv_iload_n hx hb dX0_driveAlong_73 rfl (lv_at hl 3 rfl) ?_
                obtain ⟨t8, h9, h⟩ := q_b h
                refine r_cVv C hW (nA := 3) (As := [.ref (A2 b2), .int w59, .int p1]) (rest := []) (c_X0_changeLanes l g A b A2 b2 t6 y w59 p1 _ h9) gX0_driveAlong_X0_changeLanes rfl ⟨rfl, wo_X0_changeLanes⟩ (rmk hR rfl rfl) rfl rfl rfl rfl hl.1 (Nat.le_of_ble_eq_true rfl) rz dX0_driveAlong_74 (n := 8) (is := [0, 1, 2, 3, 4, 5, 6, 7]) (rs := []) (bs' := [[(A b, .inr (0, [.ref (A (b + 1))]))], [(A (b + 1), .inl (gI g, 3, .inl t8))], [(A2 b2, .inr (3, [.ref (A2 (b2 + 1)), .ref (A2 (b2 + 4)), .ref (A2 (b2 + 7)), .ref (A2 (b2 + 10)), .ref (A2 (b2 + 11)), .int y.2.2.2.2.2.1, .int y.2.2.2.2.2.2.1, .int y.2.2.2.2.2.2.2.1, .int y.2.2.2.2.2.2.2.2.1, .int y.2.2.2.2.2.2.2.2.2]))], wX4 g A2 (b2 + 1) y.1, wX4 g A2 (b2 + 4) y.2.1, wX4 g A2 (b2 + 7) y.2.2.1, [(A2 (b2 + 10), .inl (gI g, 3, .inl y.2.2.2.1))], [(A2 (b2 + 11), .inl (gI g, 2, .inl y.2.2.2.2.1))]]) rfl rfl pm_fc798770 rfl rfl rfl (fun H locs hW => ?_)
                refine lv_iinc (v := (v38.1 + 1)) (lv' := [(4, .int (v38.1 + 1)), (5, .int w59), (0, .ref (A b)), (1, .ref (A2 b2)), (2, .int p1)]) hx hb dX0_driveAlong_77 hl (k := 4) rfl rfl (by decide) rfl (fun ls hl => ?_)
                refine lv_goto (tgt := 38) hx hb dX0_driveAlong_80 (by decide) ?_
                exact ih38 ((v38.1 + 1), t8) h _ _ hW _ (lv_sub hl [2, 3, 4, 0] rfl)
              refine lv_if_ne (tgt := 54) hx hb dX0_driveAlong_46 (by decide) (fun e10 => ?_) (fun e10 => ?_)
              · replace h := q_f e10 h
                refine lv_bipush (v := 15) hx hb dX0_driveAlong_54 (by decide) ?_
                refine lv_iload hx hb dX0_driveAlong_56 (lv_at hl 3 rfl) ?_
                refine lv_isub hx hb dX0_driveAlong_58 ?_
                exact J59 (15 - v38.1) h _ _ hW _ (lv_sub hl [0, 1, 2, 3] rfl)
              · replace h := q_t e10 h
                refine lv_iload hx hb dX0_driveAlong_49 (lv_at hl 3 rfl) ?_
                refine lv_goto (tgt := 59) hx hb dX0_driveAlong_51 (by decide) ?_
                exact J59 v38.1 h _ _ hW _ (lv_sub hl [0, 1, 2, 3] rfl)
        exact L38 3000 (0, v3.2) h _ _ hW _ (lv_sub hl [1, 2, 3, 0] rfl)
      · replace h := q_f e1 h
        refine lv_aload_n hx hb dX0_driveAlong_9 rfl (lv_at hl 0 rfl) ?_
        refine r_get C hW (K := RX0) (T := TX0) (N := 1) (v := .ref (A (b + 1))) 0 0 0 rfl rfl rfl inX0_driveAlong_X0 (by decide) (List.mem_of_getElem? (i := 1) rfl) rfl rfl dX0_driveAlong_10 ?_
        refine lv_iload hx hb dX0_driveAlong_13 (lv_at hl 4 rfl) ?_
        refine lv_iload hx hb dX0_driveAlong_15 (lv_at hl 4 rfl) ?_
        refine lv_iload_n hx hb dX0_driveAlong_17 rfl (lv_at hl 3 rfl) ?_
        refine lv_icmp_ne (tgt := 25) hx hb dX0_driveAlong_18 (by decide) (fun e11 => ?_) (fun e11 => ?_)
        · replace h := q_f e11 h
          refine lv_sipush (v := 1000) hx hb dX0_driveAlong_25 (by decide) ?_
          obtain ⟨g12, h⟩ := q_g h
          refine r_iast C hW (bs' := [[(A b, .inr (0, [.ref (A (b + 1))]))], [(A (b + 1), .inl (gI g, 3, .inl (upd v3.2 (v3.1).toNatClampNeg 1000)))], [(A2 b2, .inr (3, [.ref (A2 (b2 + 1)), .ref (A2 (b2 + 4)), .ref (A2 (b2 + 7)), .ref (A2 (b2 + 10)), .ref (A2 (b2 + 11)), .int y.2.2.2.2.2.1, .int y.2.2.2.2.2.2.1, .int y.2.2.2.2.2.2.2.1, .int y.2.2.2.2.2.2.2.2.1, .int y.2.2.2.2.2.2.2.2.2]))], wX4 g A2 (b2 + 1) y.1, wX4 g A2 (b2 + 4) y.2.1, wX4 g A2 (b2 + 7) y.2.2.1, [(A2 (b2 + 10), .inl (gI g, 3, .inl y.2.2.2.1))], [(A2 (b2 + 11), .inl (gI g, 2, .inl y.2.2.2.2.1))]]) 1 0 rfl rfl g12 dX0_driveAlong_28 rfl (fun H locs hW => ?_)
          refine lv_iinc (v := (v3.1 + 1)) (lv' := [(4, .int (v3.1 + 1)), (0, .ref (A b)), (1, .ref (A2 b2)), (2, .int p1), (3, .int p2)]) hx hb dX0_driveAlong_29 hl (k := 4) rfl rfl (by decide) rfl (fun ls hl => ?_)
          refine lv_goto (tgt := 3) hx hb dX0_driveAlong_32 (by decide) ?_
          exact ih3 ((v3.1 + 1), (upd v3.2 (v3.1).toNatClampNeg 1000)) h _ _ hW _ (lv_sub hl [1, 2, 3, 4, 0] rfl)
        · replace h := q_t e11 h
          refine lv_iconst (v := 0) hx hb dX0_driveAlong_21 (by decide) ?_
          refine lv_goto (tgt := 28) hx hb dX0_driveAlong_22 (by decide) ?_
          obtain ⟨g13, h⟩ := q_g h
          refine r_iast C hW (bs' := [[(A b, .inr (0, [.ref (A (b + 1))]))], [(A (b + 1), .inl (gI g, 3, .inl (upd v3.2 (v3.1).toNatClampNeg 0)))], [(A2 b2, .inr (3, [.ref (A2 (b2 + 1)), .ref (A2 (b2 + 4)), .ref (A2 (b2 + 7)), .ref (A2 (b2 + 10)), .ref (A2 (b2 + 11)), .int y.2.2.2.2.2.1, .int y.2.2.2.2.2.2.1, .int y.2.2.2.2.2.2.2.1, .int y.2.2.2.2.2.2.2.2.1, .int y.2.2.2.2.2.2.2.2.2]))], wX4 g A2 (b2 + 1) y.1, wX4 g A2 (b2 + 4) y.2.1, wX4 g A2 (b2 + 7) y.2.2.1, [(A2 (b2 + 10), .inl (gI g, 3, .inl y.2.2.2.1))], [(A2 (b2 + 11), .inl (gI g, 2, .inl y.2.2.2.2.1))]]) 1 0 rfl rfl g13 dX0_driveAlong_28 rfl (fun H locs hW => ?_)
          refine lv_iinc (v := (v3.1 + 1)) (lv' := [(4, .int (v3.1 + 1)), (0, .ref (A b)), (1, .ref (A2 b2)), (2, .int p1), (3, .int p2)]) hx hb dX0_driveAlong_29 hl (k := 4) rfl rfl (by decide) rfl (fun ls hl => ?_)
          refine lv_goto (tgt := 3) hx hb dX0_driveAlong_32 (by decide) ?_
          exact ih3 ((v3.1 + 1), (upd v3.2 (v3.1).toNatClampNeg 0)) h _ _ hW _ (lv_sub hl [1, 2, 3, 4, 0] rfl)
  exact L3 3000 (0, x) h _ _ hW _ (lv_sub hl [1, 2, 3, 4, 0] rfl)
def f_X1_record (x : TX1s) (y : TX3s) : Option (TX1s) :=
if ((x.2.1 + x.2.2) - (x.2.1 + x.2.2) / 5 * 5) < 0 ∨ 5 ≤ ((x.2.1 + x.2.2) - (x.2.1 + x.2.2) / 5 * 5).toNatClampNeg then none else
(f_X3_copyFrom (x.1 (((x.2.1 + x.2.2) - (x.2.1 + x.2.2) / 5 * 5).toNatClampNeg)) y).bind fun t3 =>
if 5 ≤ x.2.2 then (
some ((updR x.1 (((x.2.1 + x.2.2) - (x.2.1 + x.2.2) / 5 * 5).toNatClampNeg) t3), ((x.2.1 + 1) - (x.2.1 + 1) / 5 * 5), x.2.2))
else (
some ((updR x.1 (((x.2.1 + x.2.2) - (x.2.1 + x.2.2) / 5 * 5).toNatClampNeg) t3), x.2.1, (x.2.2 + 1)))
theorem wo_X1_record : wordsOk yX1_record 1 := by decide +kernel
theorem inX1_record_X1 : ∀ w ∈ wsX10, w ∈ wsX1_record := fun _ h => List.mem_cons_of_mem _ (List.mem_append_left _ (List.mem_append_left _ (List.mem_append_right _ h)))
set_option maxHeartbeats 4000000 in
set_option maxRecDepth 100000 in
theorem c_X1_record (l : Launch) (g : GG) (A : Nat → Nat) (b : Nat) (A2 : Nat → Nat) (b2 : Nat) (x : TX1s) (y : TX3s) (x' : TX1s) (h : f_X1_record x y = some x') : CV l yX1_record wsX1_record 2 81 g [.ref (A b), .ref (A2 b2)] (wX1 g A b x ++ wX3 g A2 b2 y) (wX1 g A b x' ++ wX3 g A2 b2 y) := by
  refine CV.mk (own := RX1) (by decide) rfl rfl (Nat.le_of_ble_eq_true rfl) ?_
  intro p e R s m args below meth c Z Q C E hR H hW ls hl
  have hx := C.1.1
  have hb := C.1.2.1
  have hown := C.1.2.2.2.1
  replace hW : WdG g Z s.heap H [] [[(A b, .inr (1, [.ref (A (b + 1)), .int x.2.1, .int x.2.2]))], [(A (b + 1), .inl (gR g, 5, .inr (.inr (.inr (.inr (fun k => some (A (b + 2 + 12 * k))))))))], wX3 g A (b + 2) (x.1 0), wX3 g A (b + 14) (x.1 1), wX3 g A (b + 26) (x.1 2), wX3 g A (b + 38) (x.1 3), wX3 g A (b + 50) (x.1 4), [(A2 b2, .inr (3, [.ref (A2 (b2 + 1)), .ref (A2 (b2 + 4)), .ref (A2 (b2 + 7)), .ref (A2 (b2 + 10)), .ref (A2 (b2 + 11)), .int y.2.2.2.2.2.1, .int y.2.2.2.2.2.2.1, .int y.2.2.2.2.2.2.2.1, .int y.2.2.2.2.2.2.2.2.1, .int y.2.2.2.2.2.2.2.2.2]))], wX4 g A2 (b2 + 1) y.1, wX4 g A2 (b2 + 4) y.2.1, wX4 g A2 (b2 + 7) y.2.2.1, [(A2 (b2 + 10), .inl (gI g, 3, .inl y.2.2.2.1))], [(A2 (b2 + 11), .inl (gI g, 2, .inl y.2.2.2.2.1))]] := hW.re rfl
  replace hl : lv_has ls 2 [(0, .ref (A b)), (1, .ref (A2 b2))] := hl
  unfold f_X1_record at h
  refine lv_aload_n hx hb dX1_record_0 rfl (lv_at hl 0 rfl) ?_
  refine r_get C hW (K := RX1) (T := TX1) (N := 3) (v := .ref (A (b + 1))) 0 0 0 rfl rfl rfl inX1_record_X1 (by decide) (List.mem_of_getElem? (i := 1) rfl) rfl rfl dX1_record_1 ?_
  refine lv_aload_n hx hb dX1_record_4 rfl (lv_at hl 0 rfl) ?_
  refine r_get C hW (K := RX1) (T := TX1) (N := 3) (v := .int x.2.1) 0 0 1 rfl rfl rfl inX1_record_X1 (by decide) (List.mem_of_getElem? (i := 2) rfl) rfl rfl dX1_record_5 ?_
  refine lv_aload_n hx hb dX1_record_8 rfl (lv_at hl 0 rfl) ?_
  refine r_get C hW (K := RX1) (T := TX1) (N := 3) (v := .int x.2.2) 0 0 2 rfl rfl rfl inX1_record_X1 (by decide) (List.mem_of_getElem? (i := 3) rfl) rfl rfl dX1_record_9 ?_
  refine lv_iadd hx hb dX1_record_12 ?_
  refine lv_iconst (v := 5) hx hb dX1_record_13 (by decide) ?_
  have g1 : ¬ (5 : Int32) = 0 := by decide
  refine lv_irem hx hb dX1_record_14 g1 ?_
  obtain ⟨g2, h⟩ := q_g h
  have hk5 : ((x.2.1 + x.2.2) - (x.2.1 + x.2.2) / 5 * 5).toNatClampNeg < 5 := Nat.not_le.mp fun q => g2 (Or.inr q)
  have hkk : ((x.2.1 + x.2.2) - (x.2.1 + x.2.2) / 5 * 5).toNatClampNeg = 0 ∨ ((x.2.1 + x.2.2) - (x.2.1 + x.2.2) / 5 * 5).toNatClampNeg = 1 ∨ ((x.2.1 + x.2.2) - (x.2.1 + x.2.2) / 5 * 5).toNatClampNeg = 2 ∨ ((x.2.1 + x.2.2) - (x.2.1 + x.2.2) / 5 * 5).toNatClampNeg = 3 ∨ ((x.2.1 + x.2.2) - (x.2.1 + x.2.2) / 5 * 5).toNatClampNeg = 4 := by omega
  rcases hkk with hkk | hkk | hkk | hkk | hkk
  · rw [hkk] at h
    refine r_aald C hW (r := A (b + 2 + 12 * 0)) 1 0 rfl rfl g2 (by rw [hkk]) dX1_record_15 ?_
    refine lv_aload_n hx hb dX1_record_16 rfl (lv_at hl 1 rfl) ?_
    obtain ⟨t3, h4, h⟩ := q_b h
    refine r_cVv C hW (nA := 1) (As := [.ref (A2 b2)]) (rest := []) (c_X3_copyFrom l g A (b + 2) A2 b2 (x.1 0) y _ h4) gX1_record_X3_copyFrom rfl ⟨rfl, wo_X3_copyFrom⟩ (rmk hR rfl rfl) rfl rfl rfl rfl hl.1 (Nat.le_of_ble_eq_true rfl) rz dX1_record_17 (n := 13) (is := [2, 7, 8, 9, 10, 11, 12]) (rs := [0, 1, 3, 4, 5, 6]) (bs' := [[(A b, .inr (1, [.ref (A (b + 1)), .int x.2.1, .int x.2.2]))], [(A (b + 1), .inl (gR g, 5, .inr (.inr (.inr (.inr (fun k => some (A (b + 2 + 12 * k))))))))], wX3 g A (b + 2) t3, wX3 g A (b + 14) (x.1 1), wX3 g A (b + 26) (x.1 2), wX3 g A (b + 38) (x.1 3), wX3 g A (b + 50) (x.1 4), [(A2 b2, .inr (3, [.ref (A2 (b2 + 1)), .ref (A2 (b2 + 4)), .ref (A2 (b2 + 7)), .ref (A2 (b2 + 10)), .ref (A2 (b2 + 11)), .int y.2.2.2.2.2.1, .int y.2.2.2.2.2.2.1, .int y.2.2.2.2.2.2.2.1, .int y.2.2.2.2.2.2.2.2.1, .int y.2.2.2.2.2.2.2.2.2]))], wX4 g A2 (b2 + 1) y.1, wX4 g A2 (b2 + 4) y.2.1, wX4 g A2 (b2 + 7) y.2.2.1, [(A2 (b2 + 10), .inl (gI g, 3, .inl y.2.2.2.1))], [(A2 (b2 + 11), .inl (gI g, 2, .inl y.2.2.2.2.1))]]) rfl rfl pm_16664078 rfl rfl rfl (fun H locs hW => ?_)
    refine lv_aload_n hx hb dX1_record_20 rfl (lv_at hl 0 rfl) ?_
    refine r_get C hW (K := RX1) (T := TX1) (N := 3) (v := .int x.2.2) 0 0 2 rfl rfl rfl inX1_record_X1 (by decide) (List.mem_of_getElem? (i := 3) rfl) rfl rfl dX1_record_21 ?_
    refine lv_iconst (v := 5) hx hb dX1_record_24 (by decide) ?_
    refine lv_icmp_ge (tgt := 41) hx hb dX1_record_25 (by decide) (fun e5 => ?_) (fun e5 => ?_)
    · replace h := q_t e5 h
      refine lv_aload_n hx hb dX1_record_41 rfl (lv_at hl 0 rfl) ?_
      refine lv_aload_n hx hb dX1_record_42 rfl (lv_at hl 0 rfl) ?_
      refine r_get C hW (K := RX1) (T := TX1) (N := 3) (v := .int x.2.1) 0 0 1 rfl rfl rfl inX1_record_X1 (by decide) (List.mem_of_getElem? (i := 2) rfl) rfl rfl dX1_record_43 ?_
      refine lv_iconst (v := 1) hx hb dX1_record_46 (by decide) ?_
      refine lv_iadd hx hb dX1_record_47 ?_
      refine lv_iconst (v := 5) hx hb dX1_record_48 (by decide) ?_
      have g6 : ¬ (5 : Int32) = 0 := by decide
      refine lv_irem hx hb dX1_record_49 g6 ?_
      refine r_put C hW (bs' := [[(A b, .inr (1, [.ref (A (b + 1)), .int ((x.2.1 + 1) - (x.2.1 + 1) / 5 * 5), .int x.2.2]))], [(A (b + 1), .inl (gR g, 5, .inr (.inr (.inr (.inr (fun k => some (A (b + 2 + 12 * k))))))))], wX3 g A (b + 2) t3, wX3 g A (b + 14) (x.1 1), wX3 g A (b + 26) (x.1 2), wX3 g A (b + 38) (x.1 3), wX3 g A (b + 50) (x.1 4), [(A2 b2, .inr (3, [.ref (A2 (b2 + 1)), .ref (A2 (b2 + 4)), .ref (A2 (b2 + 7)), .ref (A2 (b2 + 10)), .ref (A2 (b2 + 11)), .int y.2.2.2.2.2.1, .int y.2.2.2.2.2.2.1, .int y.2.2.2.2.2.2.2.1, .int y.2.2.2.2.2.2.2.2.1, .int y.2.2.2.2.2.2.2.2.2]))], wX4 g A2 (b2 + 1) y.1, wX4 g A2 (b2 + 4) y.2.1, wX4 g A2 (b2 + 7) y.2.2.1, [(A2 (b2 + 10), .inl (gI g, 3, .inl y.2.2.2.1))], [(A2 (b2 + 11), .inl (gI g, 2, .inl y.2.2.2.2.1))]]) (K := RX1) (T := TX1) (N := 3) 0 0 1 rfl rfl rfl inX1_record_X1 tyX1 tyX1_ok nmX1 (by decide) (List.mem_of_getElem? (i := 2) rfl) rfl rfl (tyX1_ok 1 (by decide)) rfl rfl (Nat.le_of_ble_eq_true rfl) dX1_record_50 rfl (fun H locs hW => ?_)
      cases h
      exact E _ _ _ _ _ hW rfl dX1_record_53
    · replace h := q_f e5 h
      refine lv_aload_n hx hb dX1_record_28 rfl (lv_at hl 0 rfl) ?_
      refine lv_dup hx hb dX1_record_29 rfl ?_
      refine r_get C hW (K := RX1) (T := TX1) (N := 3) (v := .int x.2.2) 0 0 2 rfl rfl rfl inX1_record_X1 (by decide) (List.mem_of_getElem? (i := 3) rfl) rfl rfl dX1_record_30 ?_
      refine lv_iconst (v := 1) hx hb dX1_record_33 (by decide) ?_
      refine lv_iadd hx hb dX1_record_34 ?_
      refine r_put C hW (bs' := [[(A b, .inr (1, [.ref (A (b + 1)), .int x.2.1, .int (x.2.2 + 1)]))], [(A (b + 1), .inl (gR g, 5, .inr (.inr (.inr (.inr (fun k => some (A (b + 2 + 12 * k))))))))], wX3 g A (b + 2) t3, wX3 g A (b + 14) (x.1 1), wX3 g A (b + 26) (x.1 2), wX3 g A (b + 38) (x.1 3), wX3 g A (b + 50) (x.1 4), [(A2 b2, .inr (3, [.ref (A2 (b2 + 1)), .ref (A2 (b2 + 4)), .ref (A2 (b2 + 7)), .ref (A2 (b2 + 10)), .ref (A2 (b2 + 11)), .int y.2.2.2.2.2.1, .int y.2.2.2.2.2.2.1, .int y.2.2.2.2.2.2.2.1, .int y.2.2.2.2.2.2.2.2.1, .int y.2.2.2.2.2.2.2.2.2]))], wX4 g A2 (b2 + 1) y.1, wX4 g A2 (b2 + 4) y.2.1, wX4 g A2 (b2 + 7) y.2.2.1, [(A2 (b2 + 10), .inl (gI g, 3, .inl y.2.2.2.1))], [(A2 (b2 + 11), .inl (gI g, 2, .inl y.2.2.2.2.1))]]) (K := RX1) (T := TX1) (N := 3) 0 0 2 rfl rfl rfl inX1_record_X1 tyX1 tyX1_ok nmX1 (by decide) (List.mem_of_getElem? (i := 3) rfl) rfl rfl (tyX1_ok 2 (by decide)) rfl rfl (Nat.le_of_ble_eq_true rfl) dX1_record_35 rfl (fun H locs hW => ?_)
      refine lv_goto (tgt := 53) hx hb dX1_record_38 (by decide) ?_
      cases h
      exact E _ _ _ _ _ hW rfl dX1_record_53
  · rw [hkk] at h
    refine r_aald C hW (r := A (b + 2 + 12 * 1)) 1 0 rfl rfl g2 (by rw [hkk]) dX1_record_15 ?_
    refine lv_aload_n hx hb dX1_record_16 rfl (lv_at hl 1 rfl) ?_
    obtain ⟨t3, h4, h⟩ := q_b h
    refine r_cVv C hW (nA := 1) (As := [.ref (A2 b2)]) (rest := []) (c_X3_copyFrom l g A (b + 14) A2 b2 (x.1 1) y _ h4) gX1_record_X3_copyFrom rfl ⟨rfl, wo_X3_copyFrom⟩ (rmk hR rfl rfl) rfl rfl rfl rfl hl.1 (Nat.le_of_ble_eq_true rfl) rz dX1_record_17 (n := 13) (is := [3, 7, 8, 9, 10, 11, 12]) (rs := [0, 1, 2, 4, 5, 6]) (bs' := [[(A b, .inr (1, [.ref (A (b + 1)), .int x.2.1, .int x.2.2]))], [(A (b + 1), .inl (gR g, 5, .inr (.inr (.inr (.inr (fun k => some (A (b + 2 + 12 * k))))))))], wX3 g A (b + 2) (x.1 0), wX3 g A (b + 14) t3, wX3 g A (b + 26) (x.1 2), wX3 g A (b + 38) (x.1 3), wX3 g A (b + 50) (x.1 4), [(A2 b2, .inr (3, [.ref (A2 (b2 + 1)), .ref (A2 (b2 + 4)), .ref (A2 (b2 + 7)), .ref (A2 (b2 + 10)), .ref (A2 (b2 + 11)), .int y.2.2.2.2.2.1, .int y.2.2.2.2.2.2.1, .int y.2.2.2.2.2.2.2.1, .int y.2.2.2.2.2.2.2.2.1, .int y.2.2.2.2.2.2.2.2.2]))], wX4 g A2 (b2 + 1) y.1, wX4 g A2 (b2 + 4) y.2.1, wX4 g A2 (b2 + 7) y.2.2.1, [(A2 (b2 + 10), .inl (gI g, 3, .inl y.2.2.2.1))], [(A2 (b2 + 11), .inl (gI g, 2, .inl y.2.2.2.2.1))]]) rfl rfl pm_820f74b0 rfl rfl rfl (fun H locs hW => ?_)
    refine lv_aload_n hx hb dX1_record_20 rfl (lv_at hl 0 rfl) ?_
    refine r_get C hW (K := RX1) (T := TX1) (N := 3) (v := .int x.2.2) 0 0 2 rfl rfl rfl inX1_record_X1 (by decide) (List.mem_of_getElem? (i := 3) rfl) rfl rfl dX1_record_21 ?_
    refine lv_iconst (v := 5) hx hb dX1_record_24 (by decide) ?_
    refine lv_icmp_ge (tgt := 41) hx hb dX1_record_25 (by decide) (fun e5 => ?_) (fun e5 => ?_)
    · replace h := q_t e5 h
      refine lv_aload_n hx hb dX1_record_41 rfl (lv_at hl 0 rfl) ?_
      refine lv_aload_n hx hb dX1_record_42 rfl (lv_at hl 0 rfl) ?_
      refine r_get C hW (K := RX1) (T := TX1) (N := 3) (v := .int x.2.1) 0 0 1 rfl rfl rfl inX1_record_X1 (by decide) (List.mem_of_getElem? (i := 2) rfl) rfl rfl dX1_record_43 ?_
      refine lv_iconst (v := 1) hx hb dX1_record_46 (by decide) ?_
      refine lv_iadd hx hb dX1_record_47 ?_
      refine lv_iconst (v := 5) hx hb dX1_record_48 (by decide) ?_
      have g6 : ¬ (5 : Int32) = 0 := by decide
      refine lv_irem hx hb dX1_record_49 g6 ?_
      refine r_put C hW (bs' := [[(A b, .inr (1, [.ref (A (b + 1)), .int ((x.2.1 + 1) - (x.2.1 + 1) / 5 * 5), .int x.2.2]))], [(A (b + 1), .inl (gR g, 5, .inr (.inr (.inr (.inr (fun k => some (A (b + 2 + 12 * k))))))))], wX3 g A (b + 2) (x.1 0), wX3 g A (b + 14) t3, wX3 g A (b + 26) (x.1 2), wX3 g A (b + 38) (x.1 3), wX3 g A (b + 50) (x.1 4), [(A2 b2, .inr (3, [.ref (A2 (b2 + 1)), .ref (A2 (b2 + 4)), .ref (A2 (b2 + 7)), .ref (A2 (b2 + 10)), .ref (A2 (b2 + 11)), .int y.2.2.2.2.2.1, .int y.2.2.2.2.2.2.1, .int y.2.2.2.2.2.2.2.1, .int y.2.2.2.2.2.2.2.2.1, .int y.2.2.2.2.2.2.2.2.2]))], wX4 g A2 (b2 + 1) y.1, wX4 g A2 (b2 + 4) y.2.1, wX4 g A2 (b2 + 7) y.2.2.1, [(A2 (b2 + 10), .inl (gI g, 3, .inl y.2.2.2.1))], [(A2 (b2 + 11), .inl (gI g, 2, .inl y.2.2.2.2.1))]]) (K := RX1) (T := TX1) (N := 3) 0 0 1 rfl rfl rfl inX1_record_X1 tyX1 tyX1_ok nmX1 (by decide) (List.mem_of_getElem? (i := 2) rfl) rfl rfl (tyX1_ok 1 (by decide)) rfl rfl (Nat.le_of_ble_eq_true rfl) dX1_record_50 rfl (fun H locs hW => ?_)
      cases h
      exact E _ _ _ _ _ hW rfl dX1_record_53
    · replace h := q_f e5 h
      refine lv_aload_n hx hb dX1_record_28 rfl (lv_at hl 0 rfl) ?_
      refine lv_dup hx hb dX1_record_29 rfl ?_
      refine r_get C hW (K := RX1) (T := TX1) (N := 3) (v := .int x.2.2) 0 0 2 rfl rfl rfl inX1_record_X1 (by decide) (List.mem_of_getElem? (i := 3) rfl) rfl rfl dX1_record_30 ?_
      refine lv_iconst (v := 1) hx hb dX1_record_33 (by decide) ?_
      refine lv_iadd hx hb dX1_record_34 ?_
      refine r_put C hW (bs' := [[(A b, .inr (1, [.ref (A (b + 1)), .int x.2.1, .int (x.2.2 + 1)]))], [(A (b + 1), .inl (gR g, 5, .inr (.inr (.inr (.inr (fun k => some (A (b + 2 + 12 * k))))))))], wX3 g A (b + 2) (x.1 0), wX3 g A (b + 14) t3, wX3 g A (b + 26) (x.1 2), wX3 g A (b + 38) (x.1 3), wX3 g A (b + 50) (x.1 4), [(A2 b2, .inr (3, [.ref (A2 (b2 + 1)), .ref (A2 (b2 + 4)), .ref (A2 (b2 + 7)), .ref (A2 (b2 + 10)), .ref (A2 (b2 + 11)), .int y.2.2.2.2.2.1, .int y.2.2.2.2.2.2.1, .int y.2.2.2.2.2.2.2.1, .int y.2.2.2.2.2.2.2.2.1, .int y.2.2.2.2.2.2.2.2.2]))], wX4 g A2 (b2 + 1) y.1, wX4 g A2 (b2 + 4) y.2.1, wX4 g A2 (b2 + 7) y.2.2.1, [(A2 (b2 + 10), .inl (gI g, 3, .inl y.2.2.2.1))], [(A2 (b2 + 11), .inl (gI g, 2, .inl y.2.2.2.2.1))]]) (K := RX1) (T := TX1) (N := 3) 0 0 2 rfl rfl rfl inX1_record_X1 tyX1 tyX1_ok nmX1 (by decide) (List.mem_of_getElem? (i := 3) rfl) rfl rfl (tyX1_ok 2 (by decide)) rfl rfl (Nat.le_of_ble_eq_true rfl) dX1_record_35 rfl (fun H locs hW => ?_)
      refine lv_goto (tgt := 53) hx hb dX1_record_38 (by decide) ?_
      cases h
      exact E _ _ _ _ _ hW rfl dX1_record_53
  · rw [hkk] at h
    refine r_aald C hW (r := A (b + 2 + 12 * 2)) 1 0 rfl rfl g2 (by rw [hkk]) dX1_record_15 ?_
    refine lv_aload_n hx hb dX1_record_16 rfl (lv_at hl 1 rfl) ?_
    obtain ⟨t3, h4, h⟩ := q_b h
    refine r_cVv C hW (nA := 1) (As := [.ref (A2 b2)]) (rest := []) (c_X3_copyFrom l g A (b + 26) A2 b2 (x.1 2) y _ h4) gX1_record_X3_copyFrom rfl ⟨rfl, wo_X3_copyFrom⟩ (rmk hR rfl rfl) rfl rfl rfl rfl hl.1 (Nat.le_of_ble_eq_true rfl) rz dX1_record_17 (n := 13) (is := [4, 7, 8, 9, 10, 11, 12]) (rs := [0, 1, 2, 3, 5, 6]) (bs' := [[(A b, .inr (1, [.ref (A (b + 1)), .int x.2.1, .int x.2.2]))], [(A (b + 1), .inl (gR g, 5, .inr (.inr (.inr (.inr (fun k => some (A (b + 2 + 12 * k))))))))], wX3 g A (b + 2) (x.1 0), wX3 g A (b + 14) (x.1 1), wX3 g A (b + 26) t3, wX3 g A (b + 38) (x.1 3), wX3 g A (b + 50) (x.1 4), [(A2 b2, .inr (3, [.ref (A2 (b2 + 1)), .ref (A2 (b2 + 4)), .ref (A2 (b2 + 7)), .ref (A2 (b2 + 10)), .ref (A2 (b2 + 11)), .int y.2.2.2.2.2.1, .int y.2.2.2.2.2.2.1, .int y.2.2.2.2.2.2.2.1, .int y.2.2.2.2.2.2.2.2.1, .int y.2.2.2.2.2.2.2.2.2]))], wX4 g A2 (b2 + 1) y.1, wX4 g A2 (b2 + 4) y.2.1, wX4 g A2 (b2 + 7) y.2.2.1, [(A2 (b2 + 10), .inl (gI g, 3, .inl y.2.2.2.1))], [(A2 (b2 + 11), .inl (gI g, 2, .inl y.2.2.2.2.1))]]) rfl rfl pm_752d9c43 rfl rfl rfl (fun H locs hW => ?_)
    refine lv_aload_n hx hb dX1_record_20 rfl (lv_at hl 0 rfl) ?_
    refine r_get C hW (K := RX1) (T := TX1) (N := 3) (v := .int x.2.2) 0 0 2 rfl rfl rfl inX1_record_X1 (by decide) (List.mem_of_getElem? (i := 3) rfl) rfl rfl dX1_record_21 ?_
    refine lv_iconst (v := 5) hx hb dX1_record_24 (by decide) ?_
    refine lv_icmp_ge (tgt := 41) hx hb dX1_record_25 (by decide) (fun e5 => ?_) (fun e5 => ?_)
    · replace h := q_t e5 h
      refine lv_aload_n hx hb dX1_record_41 rfl (lv_at hl 0 rfl) ?_
      refine lv_aload_n hx hb dX1_record_42 rfl (lv_at hl 0 rfl) ?_
      refine r_get C hW (K := RX1) (T := TX1) (N := 3) (v := .int x.2.1) 0 0 1 rfl rfl rfl inX1_record_X1 (by decide) (List.mem_of_getElem? (i := 2) rfl) rfl rfl dX1_record_43 ?_
      refine lv_iconst (v := 1) hx hb dX1_record_46 (by decide) ?_
      refine lv_iadd hx hb dX1_record_47 ?_
      refine lv_iconst (v := 5) hx hb dX1_record_48 (by decide) ?_
      have g6 : ¬ (5 : Int32) = 0 := by decide
      refine lv_irem hx hb dX1_record_49 g6 ?_
      refine r_put C hW (bs' := [[(A b, .inr (1, [.ref (A (b + 1)), .int ((x.2.1 + 1) - (x.2.1 + 1) / 5 * 5), .int x.2.2]))], [(A (b + 1), .inl (gR g, 5, .inr (.inr (.inr (.inr (fun k => some (A (b + 2 + 12 * k))))))))], wX3 g A (b + 2) (x.1 0), wX3 g A (b + 14) (x.1 1), wX3 g A (b + 26) t3, wX3 g A (b + 38) (x.1 3), wX3 g A (b + 50) (x.1 4), [(A2 b2, .inr (3, [.ref (A2 (b2 + 1)), .ref (A2 (b2 + 4)), .ref (A2 (b2 + 7)), .ref (A2 (b2 + 10)), .ref (A2 (b2 + 11)), .int y.2.2.2.2.2.1, .int y.2.2.2.2.2.2.1, .int y.2.2.2.2.2.2.2.1, .int y.2.2.2.2.2.2.2.2.1, .int y.2.2.2.2.2.2.2.2.2]))], wX4 g A2 (b2 + 1) y.1, wX4 g A2 (b2 + 4) y.2.1, wX4 g A2 (b2 + 7) y.2.2.1, [(A2 (b2 + 10), .inl (gI g, 3, .inl y.2.2.2.1))], [(A2 (b2 + 11), .inl (gI g, 2, .inl y.2.2.2.2.1))]]) (K := RX1) (T := TX1) (N := 3) 0 0 1 rfl rfl rfl inX1_record_X1 tyX1 tyX1_ok nmX1 (by decide) (List.mem_of_getElem? (i := 2) rfl) rfl rfl (tyX1_ok 1 (by decide)) rfl rfl (Nat.le_of_ble_eq_true rfl) dX1_record_50 rfl (fun H locs hW => ?_)
      cases h
      exact E _ _ _ _ _ hW rfl dX1_record_53
    · replace h := q_f e5 h
      refine lv_aload_n hx hb dX1_record_28 rfl (lv_at hl 0 rfl) ?_
      refine lv_dup hx hb dX1_record_29 rfl ?_
      refine r_get C hW (K := RX1) (T := TX1) (N := 3) (v := .int x.2.2) 0 0 2 rfl rfl rfl inX1_record_X1 (by decide) (List.mem_of_getElem? (i := 3) rfl) rfl rfl dX1_record_30 ?_
      refine lv_iconst (v := 1) hx hb dX1_record_33 (by decide) ?_
      refine lv_iadd hx hb dX1_record_34 ?_
      refine r_put C hW (bs' := [[(A b, .inr (1, [.ref (A (b + 1)), .int x.2.1, .int (x.2.2 + 1)]))], [(A (b + 1), .inl (gR g, 5, .inr (.inr (.inr (.inr (fun k => some (A (b + 2 + 12 * k))))))))], wX3 g A (b + 2) (x.1 0), wX3 g A (b + 14) (x.1 1), wX3 g A (b + 26) t3, wX3 g A (b + 38) (x.1 3), wX3 g A (b + 50) (x.1 4), [(A2 b2, .inr (3, [.ref (A2 (b2 + 1)), .ref (A2 (b2 + 4)), .ref (A2 (b2 + 7)), .ref (A2 (b2 + 10)), .ref (A2 (b2 + 11)), .int y.2.2.2.2.2.1, .int y.2.2.2.2.2.2.1, .int y.2.2.2.2.2.2.2.1, .int y.2.2.2.2.2.2.2.2.1, .int y.2.2.2.2.2.2.2.2.2]))], wX4 g A2 (b2 + 1) y.1, wX4 g A2 (b2 + 4) y.2.1, wX4 g A2 (b2 + 7) y.2.2.1, [(A2 (b2 + 10), .inl (gI g, 3, .inl y.2.2.2.1))], [(A2 (b2 + 11), .inl (gI g, 2, .inl y.2.2.2.2.1))]]) (K := RX1) (T := TX1) (N := 3) 0 0 2 rfl rfl rfl inX1_record_X1 tyX1 tyX1_ok nmX1 (by decide) (List.mem_of_getElem? (i := 3) rfl) rfl rfl (tyX1_ok 2 (by decide)) rfl rfl (Nat.le_of_ble_eq_true rfl) dX1_record_35 rfl (fun H locs hW => ?_)
      refine lv_goto (tgt := 53) hx hb dX1_record_38 (by decide) ?_
      cases h
      exact E _ _ _ _ _ hW rfl dX1_record_53
  · rw [hkk] at h
    refine r_aald C hW (r := A (b + 2 + 12 * 3)) 1 0 rfl rfl g2 (by rw [hkk]) dX1_record_15 ?_
    refine lv_aload_n hx hb dX1_record_16 rfl (lv_at hl 1 rfl) ?_
    obtain ⟨t3, h4, h⟩ := q_b h
    refine r_cVv C hW (nA := 1) (As := [.ref (A2 b2)]) (rest := []) (c_X3_copyFrom l g A (b + 38) A2 b2 (x.1 3) y _ h4) gX1_record_X3_copyFrom rfl ⟨rfl, wo_X3_copyFrom⟩ (rmk hR rfl rfl) rfl rfl rfl rfl hl.1 (Nat.le_of_ble_eq_true rfl) rz dX1_record_17 (n := 13) (is := [5, 7, 8, 9, 10, 11, 12]) (rs := [0, 1, 2, 3, 4, 6]) (bs' := [[(A b, .inr (1, [.ref (A (b + 1)), .int x.2.1, .int x.2.2]))], [(A (b + 1), .inl (gR g, 5, .inr (.inr (.inr (.inr (fun k => some (A (b + 2 + 12 * k))))))))], wX3 g A (b + 2) (x.1 0), wX3 g A (b + 14) (x.1 1), wX3 g A (b + 26) (x.1 2), wX3 g A (b + 38) t3, wX3 g A (b + 50) (x.1 4), [(A2 b2, .inr (3, [.ref (A2 (b2 + 1)), .ref (A2 (b2 + 4)), .ref (A2 (b2 + 7)), .ref (A2 (b2 + 10)), .ref (A2 (b2 + 11)), .int y.2.2.2.2.2.1, .int y.2.2.2.2.2.2.1, .int y.2.2.2.2.2.2.2.1, .int y.2.2.2.2.2.2.2.2.1, .int y.2.2.2.2.2.2.2.2.2]))], wX4 g A2 (b2 + 1) y.1, wX4 g A2 (b2 + 4) y.2.1, wX4 g A2 (b2 + 7) y.2.2.1, [(A2 (b2 + 10), .inl (gI g, 3, .inl y.2.2.2.1))], [(A2 (b2 + 11), .inl (gI g, 2, .inl y.2.2.2.2.1))]]) rfl rfl pm_6d328b0e rfl rfl rfl (fun H locs hW => ?_)
    refine lv_aload_n hx hb dX1_record_20 rfl (lv_at hl 0 rfl) ?_
    refine r_get C hW (K := RX1) (T := TX1) (N := 3) (v := .int x.2.2) 0 0 2 rfl rfl rfl inX1_record_X1 (by decide) (List.mem_of_getElem? (i := 3) rfl) rfl rfl dX1_record_21 ?_
    refine lv_iconst (v := 5) hx hb dX1_record_24 (by decide) ?_
    refine lv_icmp_ge (tgt := 41) hx hb dX1_record_25 (by decide) (fun e5 => ?_) (fun e5 => ?_)
    · replace h := q_t e5 h
      refine lv_aload_n hx hb dX1_record_41 rfl (lv_at hl 0 rfl) ?_
      refine lv_aload_n hx hb dX1_record_42 rfl (lv_at hl 0 rfl) ?_
      refine r_get C hW (K := RX1) (T := TX1) (N := 3) (v := .int x.2.1) 0 0 1 rfl rfl rfl inX1_record_X1 (by decide) (List.mem_of_getElem? (i := 2) rfl) rfl rfl dX1_record_43 ?_
      refine lv_iconst (v := 1) hx hb dX1_record_46 (by decide) ?_
      refine lv_iadd hx hb dX1_record_47 ?_
      refine lv_iconst (v := 5) hx hb dX1_record_48 (by decide) ?_
      have g6 : ¬ (5 : Int32) = 0 := by decide
      refine lv_irem hx hb dX1_record_49 g6 ?_
      refine r_put C hW (bs' := [[(A b, .inr (1, [.ref (A (b + 1)), .int ((x.2.1 + 1) - (x.2.1 + 1) / 5 * 5), .int x.2.2]))], [(A (b + 1), .inl (gR g, 5, .inr (.inr (.inr (.inr (fun k => some (A (b + 2 + 12 * k))))))))], wX3 g A (b + 2) (x.1 0), wX3 g A (b + 14) (x.1 1), wX3 g A (b + 26) (x.1 2), wX3 g A (b + 38) t3, wX3 g A (b + 50) (x.1 4), [(A2 b2, .inr (3, [.ref (A2 (b2 + 1)), .ref (A2 (b2 + 4)), .ref (A2 (b2 + 7)), .ref (A2 (b2 + 10)), .ref (A2 (b2 + 11)), .int y.2.2.2.2.2.1, .int y.2.2.2.2.2.2.1, .int y.2.2.2.2.2.2.2.1, .int y.2.2.2.2.2.2.2.2.1, .int y.2.2.2.2.2.2.2.2.2]))], wX4 g A2 (b2 + 1) y.1, wX4 g A2 (b2 + 4) y.2.1, wX4 g A2 (b2 + 7) y.2.2.1, [(A2 (b2 + 10), .inl (gI g, 3, .inl y.2.2.2.1))], [(A2 (b2 + 11), .inl (gI g, 2, .inl y.2.2.2.2.1))]]) (K := RX1) (T := TX1) (N := 3) 0 0 1 rfl rfl rfl inX1_record_X1 tyX1 tyX1_ok nmX1 (by decide) (List.mem_of_getElem? (i := 2) rfl) rfl rfl (tyX1_ok 1 (by decide)) rfl rfl (Nat.le_of_ble_eq_true rfl) dX1_record_50 rfl (fun H locs hW => ?_)
      cases h
      exact E _ _ _ _ _ hW rfl dX1_record_53
    · replace h := q_f e5 h
      refine lv_aload_n hx hb dX1_record_28 rfl (lv_at hl 0 rfl) ?_
      refine lv_dup hx hb dX1_record_29 rfl ?_
      refine r_get C hW (K := RX1) (T := TX1) (N := 3) (v := .int x.2.2) 0 0 2 rfl rfl rfl inX1_record_X1 (by decide) (List.mem_of_getElem? (i := 3) rfl) rfl rfl dX1_record_30 ?_
      refine lv_iconst (v := 1) hx hb dX1_record_33 (by decide) ?_
      refine lv_iadd hx hb dX1_record_34 ?_
      refine r_put C hW (bs' := [[(A b, .inr (1, [.ref (A (b + 1)), .int x.2.1, .int (x.2.2 + 1)]))], [(A (b + 1), .inl (gR g, 5, .inr (.inr (.inr (.inr (fun k => some (A (b + 2 + 12 * k))))))))], wX3 g A (b + 2) (x.1 0), wX3 g A (b + 14) (x.1 1), wX3 g A (b + 26) (x.1 2), wX3 g A (b + 38) t3, wX3 g A (b + 50) (x.1 4), [(A2 b2, .inr (3, [.ref (A2 (b2 + 1)), .ref (A2 (b2 + 4)), .ref (A2 (b2 + 7)), .ref (A2 (b2 + 10)), .ref (A2 (b2 + 11)), .int y.2.2.2.2.2.1, .int y.2.2.2.2.2.2.1, .int y.2.2.2.2.2.2.2.1, .int y.2.2.2.2.2.2.2.2.1, .int y.2.2.2.2.2.2.2.2.2]))], wX4 g A2 (b2 + 1) y.1, wX4 g A2 (b2 + 4) y.2.1, wX4 g A2 (b2 + 7) y.2.2.1, [(A2 (b2 + 10), .inl (gI g, 3, .inl y.2.2.2.1))], [(A2 (b2 + 11), .inl (gI g, 2, .inl y.2.2.2.2.1))]]) (K := RX1) (T := TX1) (N := 3) 0 0 2 rfl rfl rfl inX1_record_X1 tyX1 tyX1_ok nmX1 (by decide) (List.mem_of_getElem? (i := 3) rfl) rfl rfl (tyX1_ok 2 (by decide)) rfl rfl (Nat.le_of_ble_eq_true rfl) dX1_record_35 rfl (fun H locs hW => ?_)
      refine lv_goto (tgt := 53) hx hb dX1_record_38 (by decide) ?_
      cases h
      exact E _ _ _ _ _ hW rfl dX1_record_53
  · rw [hkk] at h
    refine r_aald C hW (r := A (b + 2 + 12 * 4)) 1 0 rfl rfl g2 (by rw [hkk]) dX1_record_15 ?_
    refine lv_aload_n hx hb dX1_record_16 rfl (lv_at hl 1 rfl) ?_
    obtain ⟨t3, h4, h⟩ := q_b h
    refine r_cVv C hW (nA := 1) (As := [.ref (A2 b2)]) (rest := []) (c_X3_copyFrom l g A (b + 50) A2 b2 (x.1 4) y _ h4) gX1_record_X3_copyFrom rfl ⟨rfl, wo_X3_copyFrom⟩ (rmk hR rfl rfl) rfl rfl rfl rfl hl.1 (Nat.le_of_ble_eq_true rfl) rz dX1_record_17 (n := 13) (is := [6, 7, 8, 9, 10, 11, 12]) (rs := [0, 1, 2, 3, 4, 5]) (bs' := [[(A b, .inr (1, [.ref (A (b + 1)), .int x.2.1, .int x.2.2]))], [(A (b + 1), .inl (gR g, 5, .inr (.inr (.inr (.inr (fun k => some (A (b + 2 + 12 * k))))))))], wX3 g A (b + 2) (x.1 0), wX3 g A (b + 14) (x.1 1), wX3 g A (b + 26) (x.1 2), wX3 g A (b + 38) (x.1 3), wX3 g A (b + 50) t3, [(A2 b2, .inr (3, [.ref (A2 (b2 + 1)), .ref (A2 (b2 + 4)), .ref (A2 (b2 + 7)), .ref (A2 (b2 + 10)), .ref (A2 (b2 + 11)), .int y.2.2.2.2.2.1, .int y.2.2.2.2.2.2.1, .int y.2.2.2.2.2.2.2.1, .int y.2.2.2.2.2.2.2.2.1, .int y.2.2.2.2.2.2.2.2.2]))], wX4 g A2 (b2 + 1) y.1, wX4 g A2 (b2 + 4) y.2.1, wX4 g A2 (b2 + 7) y.2.2.1, [(A2 (b2 + 10), .inl (gI g, 3, .inl y.2.2.2.1))], [(A2 (b2 + 11), .inl (gI g, 2, .inl y.2.2.2.2.1))]]) rfl rfl pm_53d55a26 rfl rfl rfl (fun H locs hW => ?_)
    refine lv_aload_n hx hb dX1_record_20 rfl (lv_at hl 0 rfl) ?_
    refine r_get C hW (K := RX1) (T := TX1) (N := 3) (v := .int x.2.2) 0 0 2 rfl rfl rfl inX1_record_X1 (by decide) (List.mem_of_getElem? (i := 3) rfl) rfl rfl dX1_record_21 ?_
    refine lv_iconst (v := 5) hx hb dX1_record_24 (by decide) ?_
    refine lv_icmp_ge (tgt := 41) hx hb dX1_record_25 (by decide) (fun e5 => ?_) (fun e5 => ?_)
    · replace h := q_t e5 h
      refine lv_aload_n hx hb dX1_record_41 rfl (lv_at hl 0 rfl) ?_
      refine lv_aload_n hx hb dX1_record_42 rfl (lv_at hl 0 rfl) ?_
      refine r_get C hW (K := RX1) (T := TX1) (N := 3) (v := .int x.2.1) 0 0 1 rfl rfl rfl inX1_record_X1 (by decide) (List.mem_of_getElem? (i := 2) rfl) rfl rfl dX1_record_43 ?_
      refine lv_iconst (v := 1) hx hb dX1_record_46 (by decide) ?_
      refine lv_iadd hx hb dX1_record_47 ?_
      refine lv_iconst (v := 5) hx hb dX1_record_48 (by decide) ?_
      have g6 : ¬ (5 : Int32) = 0 := by decide
      refine lv_irem hx hb dX1_record_49 g6 ?_
      refine r_put C hW (bs' := [[(A b, .inr (1, [.ref (A (b + 1)), .int ((x.2.1 + 1) - (x.2.1 + 1) / 5 * 5), .int x.2.2]))], [(A (b + 1), .inl (gR g, 5, .inr (.inr (.inr (.inr (fun k => some (A (b + 2 + 12 * k))))))))], wX3 g A (b + 2) (x.1 0), wX3 g A (b + 14) (x.1 1), wX3 g A (b + 26) (x.1 2), wX3 g A (b + 38) (x.1 3), wX3 g A (b + 50) t3, [(A2 b2, .inr (3, [.ref (A2 (b2 + 1)), .ref (A2 (b2 + 4)), .ref (A2 (b2 + 7)), .ref (A2 (b2 + 10)), .ref (A2 (b2 + 11)), .int y.2.2.2.2.2.1, .int y.2.2.2.2.2.2.1, .int y.2.2.2.2.2.2.2.1, .int y.2.2.2.2.2.2.2.2.1, .int y.2.2.2.2.2.2.2.2.2]))], wX4 g A2 (b2 + 1) y.1, wX4 g A2 (b2 + 4) y.2.1, wX4 g A2 (b2 + 7) y.2.2.1, [(A2 (b2 + 10), .inl (gI g, 3, .inl y.2.2.2.1))], [(A2 (b2 + 11), .inl (gI g, 2, .inl y.2.2.2.2.1))]]) (K := RX1) (T := TX1) (N := 3) 0 0 1 rfl rfl rfl inX1_record_X1 tyX1 tyX1_ok nmX1 (by decide) (List.mem_of_getElem? (i := 2) rfl) rfl rfl (tyX1_ok 1 (by decide)) rfl rfl (Nat.le_of_ble_eq_true rfl) dX1_record_50 rfl (fun H locs hW => ?_)
      cases h
      exact E _ _ _ _ _ hW rfl dX1_record_53
    · replace h := q_f e5 h
      refine lv_aload_n hx hb dX1_record_28 rfl (lv_at hl 0 rfl) ?_
      refine lv_dup hx hb dX1_record_29 rfl ?_
      refine r_get C hW (K := RX1) (T := TX1) (N := 3) (v := .int x.2.2) 0 0 2 rfl rfl rfl inX1_record_X1 (by decide) (List.mem_of_getElem? (i := 3) rfl) rfl rfl dX1_record_30 ?_
      refine lv_iconst (v := 1) hx hb dX1_record_33 (by decide) ?_
      refine lv_iadd hx hb dX1_record_34 ?_
      refine r_put C hW (bs' := [[(A b, .inr (1, [.ref (A (b + 1)), .int x.2.1, .int (x.2.2 + 1)]))], [(A (b + 1), .inl (gR g, 5, .inr (.inr (.inr (.inr (fun k => some (A (b + 2 + 12 * k))))))))], wX3 g A (b + 2) (x.1 0), wX3 g A (b + 14) (x.1 1), wX3 g A (b + 26) (x.1 2), wX3 g A (b + 38) (x.1 3), wX3 g A (b + 50) t3, [(A2 b2, .inr (3, [.ref (A2 (b2 + 1)), .ref (A2 (b2 + 4)), .ref (A2 (b2 + 7)), .ref (A2 (b2 + 10)), .ref (A2 (b2 + 11)), .int y.2.2.2.2.2.1, .int y.2.2.2.2.2.2.1, .int y.2.2.2.2.2.2.2.1, .int y.2.2.2.2.2.2.2.2.1, .int y.2.2.2.2.2.2.2.2.2]))], wX4 g A2 (b2 + 1) y.1, wX4 g A2 (b2 + 4) y.2.1, wX4 g A2 (b2 + 7) y.2.2.1, [(A2 (b2 + 10), .inl (gI g, 3, .inl y.2.2.2.1))], [(A2 (b2 + 11), .inl (gI g, 2, .inl y.2.2.2.2.1))]]) (K := RX1) (T := TX1) (N := 3) 0 0 2 rfl rfl rfl inX1_record_X1 tyX1 tyX1_ok nmX1 (by decide) (List.mem_of_getElem? (i := 3) rfl) rfl rfl (tyX1_ok 2 (by decide)) rfl rfl (Nat.le_of_ble_eq_true rfl) dX1_record_35 rfl (fun H locs hW => ?_)
      refine lv_goto (tgt := 53) hx hb dX1_record_38 (by decide) ?_
      cases h
      exact E _ _ _ _ _ hW rfl dX1_record_53
