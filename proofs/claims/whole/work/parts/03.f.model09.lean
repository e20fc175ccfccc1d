def f_X6_mayChange_j32 (x : TX6s) (p1 : Int32) (p2 : Int32) (p3 : Int32) (p4 : Int32) (w32 : Unit) : Option (Int32) :=
(f_X6_in p4 0 1).bind fun t7 =>
if t7 = 0 then (
some (-2))
else (
(f_X6_canChange x p1 p2 p3 p4).bind fun t10 =>
if t10 = 0 then (
some 0)
else (
some 1))
def f_X6_mayChange (x : TX6s) (p1 : Int32) (p2 : Int32) (p3 : Int32) (p4 : Int32) : Option (Int32) :=
(f_X6_isCell p1 p3).bind fun t1 =>
if t1 = 0 then (
some (-1))
else (
(f_X6_isCell p2 p3).bind fun t4 =>
if t4 = 0 then (
some (-1))
else (
if (p1 - p2) = 1 then (
f_X6_mayChange_j32 x p1 p2 p3 p4 ())
else (
if (p2 - p1) = 1 then (
f_X6_mayChange_j32 x p1 p2 p3 p4 ())
else (
some (-2)))))
theorem wo_X6_mayChange : wordsOk yX6_mayChange 4 := by decide +kernel
set_option maxHeartbeats 4000000 in
set_option maxRecDepth 100000 in
theorem c_X6_mayChange (l : Launch) (g : GG) (A : Nat → Nat) (b : Nat) (x : TX6s) (p1 : Int32) (p2 : Int32) (p3 : Int32) (p4 : Int32) (r : Int32) (h : f_X6_mayChange x p1 p2 p3 p4 = some r) : CI l yX6_mayChange wsX6_mayChange 4 92 g [.ref (A b), .int p1, .int p2, .int p3, .int p4] (wX6 g A b x) r (wX6 g A b x) := by
  refine CI.mk (own := RX6) (by decide) rfl rfl (Nat.le_of_ble_eq_true rfl) ?_
  intro p e R s m args below meth c Z Q C E hR H hW ls hl
  have hx := C.1.1
  have hb := C.1.2.1
  have hown := C.1.2.2.2.1
  replace hW : WdG g Z s.heap H [] [[(A b, .inr (6, [.ref (A (b + 1)), .ref (A (b + 2)), .int x.2.2.1, .ref (A (b + 3)), .int x.2.2.2.2.1, .ref (A (b + 4)), .int x.2.2.2.2.2.2.1, .ref (A (b + 5)), .ref (A (b + 6)), .int x.2.2.2.2.2.2.2.2.2.1, .int x.2.2.2.2.2.2.2.2.2.2.1, .int x.2.2.2.2.2.2.2.2.2.2.2]))], [(A (b + 1), .inl (gI g, 268, .inl x.1))], [(A (b + 2), .inl (gI g, 1340, .inl x.2.1))], [(A (b + 3), .inl (gI g, 268, .inl x.2.2.2.1))], [(A (b + 4), .inl (gC g, 70, .inl x.2.2.2.2.2.1))], [(A (b + 5), .inl (gI g, 3, .inl x.2.2.2.2.2.2.2.1))], [(A (b + 6), .inl (gI g, 144, .inl x.2.2.2.2.2.2.2.2.1))]] := hW.re rfl
  replace hl : lv_has ls 5 [(0, .ref (A b)), (1, .int p1), (2, .int p2), (3, .int p3), (4, .int p4)] := hl
  unfold f_X6_mayChange at h
  refine lv_iload_n hx hb dX6_mayChange_0 rfl (lv_at hl 1 rfl) ?_
  refine lv_iload_n hx hb dX6_mayChange_1 rfl (lv_at hl 3 rfl) ?_
  obtain ⟨t1, h2, h⟩ := q_b h
  refine r_cSi C hW (nA := 2) (As := [.int p1, .int p3]) (rest := []) (c_X6_isCell l g p1 p3 _ h2) gX6_mayChange_X6_isCell rfl wo_X6_isCell (rmk hR rfl rfl) rfl rfl hl.1 (Nat.le_of_ble_eq_true rfl) rz dX6_mayChange_2 (n := 7) (is := []) (rs := [0, 1, 2, 3, 4, 5, 6]) (bs' := [[(A b, .inr (6, [.ref (A (b + 1)), .ref (A (b + 2)), .int x.2.2.1, .ref (A (b + 3)), .int x.2.2.2.2.1, .ref (A (b + 4)), .int x.2.2.2.2.2.2.1, .ref (A (b + 5)), .ref (A (b + 6)), .int x.2.2.2.2.2.2.2.2.2.1, .int x.2.2.2.2.2.2.2.2.2.2.1, .int x.2.2.2.2.2.2.2.2.2.2.2]))], [(A (b + 1), .inl (gI g, 268, .inl x.1))], [(A (b + 2), .inl (gI g, 1340, .inl x.2.1))], [(A (b + 3), .inl (gI g, 268, .inl x.2.2.2.1))], [(A (b + 4), .inl (gC g, 70, .inl x.2.2.2.2.2.1))], [(A (b + 5), .inl (gI g, 3, .inl x.2.2.2.2.2.2.2.1))], [(A (b + 6), .inl (gI g, 144, .inl x.2.2.2.2.2.2.2.2.1))]]) rfl rfl pm_38 rfl rfl rfl (fun H locs hW => ?_)
  refine lv_if_eq (tgt := 16) hx hb dX6_mayChange_5 (by decide) (fun e3 => ?_) (fun e3 => ?_)
  · replace h := q_t e3 h
    refine lv_iconst (v := (-1)) hx hb dX6_mayChange_16 (by decide) ?_
    cases h
    exact E _ _ _ _ _ hW rfl rfl dX6_mayChange_17
  · replace h := q_f e3 h
    refine lv_iload_n hx hb dX6_mayChange_8 rfl (lv_at hl 2 rfl) ?_
    refine lv_iload_n hx hb dX6_mayChange_9 rfl (lv_at hl 3 rfl) ?_
    obtain ⟨t4, h5, h⟩ := q_b h
    refine r_cSi C hW (nA := 2) (As := [.int p2, .int p3]) (rest := []) (c_X6_isCell l g p2 p3 _ h5) gX6_mayChange_X6_isCell rfl wo_X6_isCell (rmk hR rfl rfl) rfl rfl hl.1 (Nat.le_of_ble_eq_true rfl) rz dX6_mayChange_10 (n := 7) (is := []) (rs := [0, 1, 2, 3, 4, 5, 6]) (bs' := [[(A b, .inr (6, [.ref (A (b + 1)), .ref (A (b + 2)), .int x.2.2.1, .ref (A (b + 3)), .int x.2.2.2.2.1, .ref (A (b + 4)), .int x.2.2.2.2.2.2.1, .ref (A (b + 5)), .ref (A (b + 6)), .int x.2.2.2.2.2.2.2.2.2.1, .int x.2.2.2.2.2.2.2.2.2.2.1, .int x.2.2.2.2.2.2.2.2.2.2.2]))], [(A (b + 1), .inl (gI g, 268, .inl x.1))], [(A (b + 2), .inl (gI g, 1340, .inl x.2.1))], [(A (b + 3), .inl (gI g, 268, .inl x.2.2.2.1))], [(A (b + 4), .inl (gC g, 70, .inl x.2.2.2.2.2.1))], [(A (b + 5), .inl (gI g, 3, .inl x.2.2.2.2.2.2.2.1))], [(A (b + 6), .inl (gI g, 144, .inl x.2.2.2.2.2.2.2.2.1))]]) rfl rfl pm_38 rfl rfl rfl (fun H locs hW => ?_)
    refine lv_if_ne (tgt := 18) hx hb dX6_mayChange_13 (by decide) (fun e6 => ?_) (fun e6 => ?_)
    · replace h := q_f e6 h
      refine lv_iload_n hx hb dX6_mayChange_18 rfl (lv_at hl 1 rfl) ?_
      refine lv_iload_n hx hb dX6_mayChange_19 rfl (lv_at hl 2 rfl) ?_
      refine lv_isub hx hb dX6_mayChange_20 ?_
      refine lv_iconst (v := 1) hx hb dX6_mayChange_21 (by decide) ?_
      have J32 : ∀ (w32 : Unit), f_X6_mayChange_j32 x p1 p2 p3 p4 w32 = some r → ∀ (H : Heap) (locs : List Loc), WdG g Z s.heap H locs [[(A b, .inr (6, [.ref (A (b + 1)), .ref (A (b + 2)), .int x.2.2.1, .ref (A (b + 3)), .int x.2.2.2.2.1, .ref (A (b + 4)), .int x.2.2.2.2.2.2.1, .ref (A (b + 5)), .ref (A (b + 6)), .int x.2.2.2.2.2.2.2.2.2.1, .int x.2.2.2.2.2.2.2.2.2.2.1, .int x.2.2.2.2.2.2.2.2.2.2.2]))], [(A (b + 1), .inl (gI g, 268, .inl x.1))], [(A (b + 2), .inl (gI g, 1340, .inl x.2.1))], [(A (b + 3), .inl (gI g, 268, .inl x.2.2.2.1))], [(A (b + 4), .inl (gC g, 70, .inl x.2.2.2.2.2.1))], [(A (b + 5), .inl (gI g, 3, .inl x.2.2.2.2.2.2.2.1))], [(A (b + 6), .inl (gI g, 144, .inl x.2.2.2.2.2.2.2.2.1))]] → ∀ ls : Array Slot, lv_has ls 5 [(0, .ref (A b)), (1, .int p1), (2, .int p2), (3, .int p3), (4, .int p4)] → W p l e R s m args below meth c H locs 0 0 Q (F0 m 32 ls []) := by
        intro w32 h H locs hW ls hl
        unfold f_X6_mayChange_j32 at h
        refine lv_iload hx hb dX6_mayChange_32 (lv_at hl 4 rfl) ?_
        refine lv_iconst (v := 0) hx hb dX6_mayChange_34 (by decide) ?_
        refine lv_iconst (v := 1) hx hb dX6_mayChange_35 (by decide) ?_
        obtain ⟨t7, h8, h⟩ := q_b h
        refine r_cSi C hW (nA := 3) (As := [.int p4, .int 0, .int 1]) (rest := []) (c_X6_in l g p4 0 1 _ h8) gX6_mayChange_X6_in rfl wo_X6_in (rmk hR rfl rfl) rfl rfl hl.1 (Nat.le_of_ble_eq_true rfl) rz dX6_mayChange_36 (n := 7) (is := []) (rs := [0, 1, 2, 3, 4, 5, 6]) (bs' := [[(A b, .inr (6, [.ref (A (b + 1)), .ref (A (b + 2)), .int x.2.2.1, .ref (A (b + 3)), .int x.2.2.2.2.1, .ref (A (b + 4)), .int x.2.2.2.2.2.2.1, .ref (A (b + 5)), .ref (A (b + 6)), .int x.2.2.2.2.2.2.2.2.2.1, .int x.2.2.2.2.2.2.2.2.2.2.1, .int x.2.2.2.2.2.2.2.2.2.2.2]))], [(A (b + 1), .inl (gI g, 268, .inl x.1))], [(A (b + 2), .inl (gI g, 1340, .inl x.2.1))], [(A (b + 3), .inl (gI g, 268, .inl x.2.2.2.1))], [(A (b + 4), .inl (gC g, 70, .inl x.2.2.2.2.2.1))], [(A (b + 5), .inl (gI g, 3, .inl x.2.2.2.2.2.2.2.1))], [(A (b + 6), .inl (gI g, 144, .inl x.2.2.2.2.2.2.2.2.1))]]) rfl rfl pm_38 rfl rfl rfl (fun H locs hW => ?_)
        refine lv_if_ne (tgt := 45) hx hb dX6_mayChange_39 (by decide) (fun e9 => ?_) (fun e9 => ?_)
        · replace h := q_f e9 h
          refine lv_aload_n hx hb dX6_mayChange_45 rfl (lv_at hl 0 rfl) ?_
          refine lv_iload_n hx hb dX6_mayChange_46 rfl (lv_at hl 1 rfl) ?_
          refine lv_iload_n hx hb dX6_mayChange_47 rfl (lv_at hl 2 rfl) ?_
          refine lv_iload_n hx hb dX6_mayChange_48 rfl (lv_at hl 3 rfl) ?_
          refine lv_iload hx hb dX6_mayChange_49 (lv_at hl 4 rfl) ?_
          obtain ⟨t10, h11, h⟩ := q_b h
          refine r_cVi C hW (nA := 4) (As := [.int p1, .int p2, .int p3, .int p4]) (rest := []) (c_X6_canChange l g A b x p1 p2 p3 p4 _ h11) gX6_mayChange_X6_canChange rfl ⟨rfl, wo_X6_canChange⟩ (rmk hR rfl rfl) rfl rfl rfl rfl hl.1 (Nat.le_of_ble_eq_true rfl) rz dX6_mayChange_51 (n := 7) (is := [0, 1, 2, 3, 4, 5, 6]) (rs := []) (bs' := [[(A b, .inr (6, [.ref (A (b + 1)), .ref (A (b + 2)), .int x.2.2.1, .ref (A (b + 3)), .int x.2.2.2.2.1, .ref (A (b + 4)), .int x.2.2.2.2.2.2.1, .ref (A (b + 5)), .ref (A (b + 6)), .int x.2.2.2.2.2.2.2.2.2.1, .int x.2.2.2.2.2.2.2.2.2.2.1, .int x.2.2.2.2.2.2.2.2.2.2.2]))], [(A (b + 1), .inl (gI g, 268, .inl x.1))], [(A (b + 2), .inl (gI g, 1340, .inl x.2.1))], [(A (b + 3), .inl (gI g, 268, .inl x.2.2.2.1))], [(A (b + 4), .inl (gC g, 70, .inl x.2.2.2.2.2.1))], [(A (b + 5), .inl (gI g, 3, .inl x.2.2.2.2.2.2.2.1))], [(A (b + 6), .inl (gI g, 144, .inl x.2.2.2.2.2.2.2.2.1))]]) rfl rfl pm_39 rfl rfl rfl (fun H locs hW => ?_)
          refine lv_if_eq (tgt := 61) hx hb dX6_mayChange_54 (by decide) (fun e12 => ?_) (fun e12 => ?_)
          · replace h := q_t e12 h
            refine lv_iconst (v := 0) hx hb dX6_mayChange_61 (by decide) ?_
            cases h
            exact E _ _ _ _ _ hW rfl rfl dX6_mayChange_62
          · replace h := q_f e12 h
            refine lv_iconst (v := 1) hx hb dX6_mayChange_57 (by decide) ?_
            refine lv_goto (tgt := 62) hx hb dX6_mayChange_58 (by decide) ?_
            cases h
            exact E _ _ _ _ _ hW rfl rfl dX6_mayChange_62
        · replace h := q_t e9 h
          refine lv_bipush (v := (-2)) hx hb dX6_mayChange_42 (by decide) ?_
          cases h
          exact E _ _ _ _ _ hW rfl rfl dX6_mayChange_44
      refine lv_icmp_eq (tgt := 32) hx hb dX6_mayChange_22 (by decide) (fun e13 => ?_) (fun e13 => ?_)
      · replace h := q_t e13 h
        exact J32 () h _ _ hW _ (lv_sub hl [0, 1, 2, 3, 4] rfl)
      · replace h := q_f e13 h
        refine lv_iload_n hx hb dX6_mayChange_25 rfl (lv_at hl 2 rfl) ?_
        refine lv_iload_n hx hb dX6_mayChange_26 rfl (lv_at hl 1 rfl) ?_
        refine lv_isub hx hb dX6_mayChange_27 ?_
        refine lv_iconst (v := 1) hx hb dX6_mayChange_28 (by decide) ?_
        refine lv_icmp_ne (tgt := 42) hx hb dX6_mayChange_29 (by decide) (fun e14 => ?_) (fun e14 => ?_)
        · replace h := q_f e14 h
          refine lv_bipush (v := (-2)) hx hb dX6_mayChange_42 (by decide) ?_
          cases h
          exact E _ _ _ _ _ hW rfl rfl dX6_mayChange_44
        · replace h := q_t e14 h
          exact J32 () h _ _ hW _ (lv_sub hl [0, 1, 2, 3, 4] rfl)
    · replace h := q_t e6 h
      refine lv_iconst (v := (-1)) hx hb dX6_mayChange_16 (by decide) ?_
      cases h
      exact E _ _ _ _ _ hW rfl rfl dX6_mayChange_17
def f_X6_readable_l11 (x : TX6s) (k4 : (Int32 × Int32) → Option (Int32)) (v4 : Int32 × Int32) (k11 : (Int32 × Int32) → Option (Int32)) (v11 : Int32 × Int32) : Option (Int32) :=
if 16 ≤ v11.2 then (
k4 (v11.1, (v4.2 + 1)))
else (
(f_X6_isRead x v4.2 v11.2).bind fun t3 =>
if t3 = 0 then (
k11 ((v11.1 + 0), (v11.2 + 1)))
else (
k11 ((v11.1 + 1), (v11.2 + 1))))
def f_X6_readable_l4 (x : TX6s) (k4 : (Int32 × Int32) → Option (Int32)) (v4 : Int32 × Int32) : Option (Int32) :=
if 3 ≤ v4.2 then (
some v4.1)
else (
lpN (f_X6_readable_l11 x k4 v4) 3000 (v4.1, 0))
def f_X6_readable (x : TX6s) : Option (Int32) :=
lpN (f_X6_readable_l4 x) 3000 (0, 0)
theorem wo_X6_readable : wordsOk yX6_readable 0 := by decide +kernel
set_option maxHeartbeats 4000000 in
set_option maxRecDepth 100000 in
theorem c_X6_readable (l : Launch) (g : GG) (A : Nat → Nat) (b : Nat) (x : TX6s) (r : Int32) (h : f_X6_readable x = some r) : CI l yX6_readable wsX6_readable 2 44 g [.ref (A b)] (wX6 g A b x) r (wX6 g A b x) := by
  refine CI.mk (own := RX6) (by decide) rfl rfl (Nat.le_of_ble_eq_true rfl) ?_
  intro p e R s m args below meth c Z Q C E hR H hW ls hl
  have hx := C.1.1
  have hb := C.1.2.1
  have hown := C.1.2.2.2.1
  replace hW : WdG g Z s.heap H [] [[(A b, .inr (6, [.ref (A (b + 1)), .ref (A (b + 2)), .int x.2.2.1, .ref (A (b + 3)), .int x.2.2.2.2.1, .ref (A (b + 4)), .int x.2.2.2.2.2.2.1, .ref (A (b + 5)), .ref (A (b + 6)), .int x.2.2.2.2.2.2.2.2.2.1, .int x.2.2.2.2.2.2.2.2.2.2.1, .int x.2.2.2.2.2.2.2.2.2.2.2]))], [(A (b + 1), .inl (gI g, 268, .inl x.1))], [(A (b + 2), .inl (gI g, 1340, .inl x.2.1))], [(A (b + 3), .inl (gI g, 268, .inl x.2.2.2.1))], [(A (b + 4), .inl (gC g, 70, .inl x.2.2.2.2.2.1))], [(A (b + 5), .inl (gI g, 3, .inl x.2.2.2.2.2.2.2.1))], [(A (b + 6), .inl (gI g, 144, .inl x.2.2.2.2.2.2.2.2.1))]] := hW.re rfl
  replace hl : lv_has ls 4 [(0, .ref (A b))] := hl
  unfold f_X6_readable at h
  refine lv_iconst (v := 0) hx hb dX6_readable_0 (by decide) ?_
  refine lv_istore_n (lv' := [(1, .int 0), (0, .ref (A b))]) hx hb dX6_readable_1 rfl hl (by decide) rfl (fun ls hl => ?_)
  refine lv_iconst (v := 0) hx hb dX6_readable_2 (by decide) ?_
  refine lv_istore_n (lv' := [(2, .int 0), (1, .int 0), (0, .ref (A b))]) hx hb dX6_readable_3 rfl hl (by decide) rfl (fun ls hl => ?_)
  have L4 : ∀ n4 : Nat, ∀ (v4 : Int32 × Int32), lpN (f_X6_readable_l4 x) n4 v4 = some r → ∀ (H : Heap) (locs : List Loc), WdG g Z s.heap H locs [[(A b, .inr (6, [.ref (A (b + 1)), .ref (A (b + 2)), .int x.2.2.1, .ref (A (b + 3)), .int x.2.2.2.2.1, .ref (A (b + 4)), .int x.2.2.2.2.2.2.1, .ref (A (b + 5)), .ref (A (b + 6)), .int x.2.2.2.2.2.2.2.2.2.1, .int x.2.2.2.2.2.2.2.2.2.2.1, .int x.2.2.2.2.2.2.2.2.2.2.2]))], [(A (b + 1), .inl (gI g, 268, .inl x.1))], [(A (b + 2), .inl (gI g, 1340, .inl x.2.1))], [(A (b + 3), .inl (gI g, 268, .inl x.2.2.2.1))], [(A (b + 4), .inl (gC g, 70, .inl x.2.2.2.2.2.1))], [(A (b + 5), .inl (gI g, 3, .inl x.2.2.2.2.2.2.2.1))], [(A (b + 6), .inl (gI g, 144, .inl x.2.2.2.2.2.2.2.2.1))]] → ∀ ls : Array Slot, lv_has ls 4 [(0, .ref (A b)), (1, .int v4.1), (2, .int v4.2)] → W p l e R s m args below meth c H locs 0 0 Q (F0 m 4 ls []) := by
    intro n4
    induction n4 with
    | zero => intro v4 h; exact absurd (show none = some r from h) (fun h => by cases h)
    | succ n4 ih4 =>
      intro v4 h H locs hW ls hl
      replace h : f_X6_readable_l4 x (lpN (f_X6_readable_l4 x) n4) v4 = some r := h
      unfold f_X6_readable_l4 at h
      refine lv_iload_n hx hb dX6_readable_4 rfl (lv_at hl 2 rfl) ?_
      refine lv_iconst (v := 3) hx hb dX6_readable_5 (by decide) ?_
      refine lv_icmp_ge (tgt := 46) hx hb dX6_readable_6 (by decide) (fun e1 => ?_) (fun e1 => ?_)
      · replace h := q_t e1 h
        refine lv_iload_n hx hb dX6_readable_46 rfl (lv_at hl 1 rfl) ?_
        cases h
        exact E _ _ _ _ _ hW rfl rfl dX6_readable_47
      · replace h := q_f e1 h
        refine lv_iconst (v := 0) hx hb dX6_readable_9 (by decide) ?_
        refine lv_istore_n (lv' := [(3, .int 0), (0, .ref (A b)), (1, .int v4.1), (2, .int v4.2)]) hx hb dX6_readable_10 rfl hl (by decide) rfl (fun ls hl => ?_)
        have L11 : ∀ n11 : Nat, ∀ (v11 : Int32 × Int32), lpN (f_X6_readable_l11 x (lpN (f_X6_readable_l4 x) n4) v4) n11 v11 = some r → ∀ (H : Heap) (locs : List Loc), WdG g Z s.heap H locs [[(A b, .inr (6, [.ref (A (b + 1)), .ref (A (b + 2)), .int x.2.2.1, .ref (A (b + 3)), .int x.2.2.2.2.1, .ref (A (b + 4)), .int x.2.2.2.2.2.2.1, .ref (A (b + 5)), .ref (A (b + 6)), .int x.2.2.2.2.2.2.2.2.2.1, .int x.2.2.2.2.2.2.2.2.2.2.1, .int x.2.2.2.2.2.2.2.2.2.2.2]))], [(A (b + 1), .inl (gI g, 268, .inl x.1))], [(A (b + 2), .inl (gI g, 1340, .inl x.2.1))], [(A (b + 3), .inl (gI g, 268, .inl x.2.2.2.1))], [(A (b + 4), .inl (gC g, 70, .inl x.2.2.2.2.2.1))], [(A (b + 5), .inl (gI g, 3, .inl x.2.2.2.2.2.2.2.1))], [(A (b + 6), .inl (gI g, 144, .inl x.2.2.2.2.2.2.2.2.1))]] → ∀ ls : Array Slot, lv_has ls 4 [(0, .ref (A b)), (1, .int v11.1), (2, .int v4.2), (3, .int v11.2)] → W p l e R s m args below meth c H locs 0 0 Q (F0 m 11 ls []) := by
          intro n11
          induction n11 with
          | zero => intro v11 h; exact absurd (show none = some r from h) (fun h => by cases h)
          | succ n11 ih11 =>
            intro v11 h H locs hW ls hl
            replace h : f_X6_readable_l11 x (lpN (f_X6_readable_l4 x) n4) v4 (lpN (f_X6_readable_l11 x (lpN (f_X6_readable_l4 x) n4) v4) n11) v11 = some r := h
            unfold f_X6_readable_l11 at h
            refine lv_iload_n hx hb dX6_readable_11 rfl (lv_at hl 3 rfl) ?_
            refine lv_bipush (v := 16) hx hb dX6_readable_12 (by decide) ?_
            refine lv_icmp_ge (tgt := 40) hx hb dX6_readable_14 (by decide) (fun e2 => ?_) (fun e2 => ?_)
            · replace h := q_t e2 h
              refine lv_iinc (v := (v4.2 + 1)) (lv' := [(2, .int (v4.2 + 1)), (0, .ref (A b)), (1, .int v11.1), (3, .int v11.2)]) hx hb dX6_readable_40 hl (k := 2) rfl rfl (by decide) rfl (fun ls hl => ?_)
              refine lv_goto (tgt := 4) hx hb dX6_readable_43 (by decide) ?_
              exact ih4 (v11.1, (v4.2 + 1)) h _ _ hW _ (lv_sub hl [1, 2, 0] rfl)
            · replace h := q_f e2 h
              refine lv_iload_n hx hb dX6_readable_17 rfl (lv_at hl 1 rfl) ?_
              refine lv_aload_n hx hb dX6_readable_18 rfl (lv_at hl 0 rfl) ?_
              refine lv_iload_n hx hb dX6_readable_19 rfl (lv_at hl 2 rfl) ?_
              refine lv_iload_n hx hb dX6_readable_20 rfl (lv_at hl 3 rfl) ?_
              obtain ⟨t3, h4, h⟩ := q_b h
              refine r_cVi C hW (nA := 2) (As := [.int v4.2, .int v11.2]) (rest := [.int v11.1]) (c_X6_isRead l g A b x v4.2 v11.2 _ h4) gX6_readable_X6_isRead rfl ⟨rfl, wo_X6_isRead⟩ (rmk hR rfl rfl) rfl rfl rfl rfl hl.1 (Nat.le_of_ble_eq_true rfl) rz dX6_readable_21 (n := 7) (is := [0, 1, 2, 3, 4, 5, 6]) (rs := []) (bs' := [[(A b, .inr (6, [.ref (A (b + 1)), .ref (A (b + 2)), .int x.2.2.1, .ref (A (b + 3)), .int x.2.2.2.2.1, .ref (A (b + 4)), .int x.2.2.2.2.2.2.1, .ref (A (b + 5)), .ref (A (b + 6)), .int x.2.2.2.2.2.2.2.2.2.1, .int x.2.2.2.2.2.2.2.2.2.2.1, .int x.2.2.2.2.2.2.2.2.2.2.2]))], [(A (b + 1), .inl (gI g, 268, .inl x.1))], [(A (b + 2), .inl (gI g, 1340, .inl x.2.1))], [(A (b + 3), .inl (gI g, 268, .inl x.2.2.2.1))], [(A (b + 4), .inl (gC g, 70, .inl x.2.2.2.2.2.1))], [(A (b + 5), .inl (gI g, 3, .inl x.2.2.2.2.2.2.2.1))], [(A (b + 6), .inl (gI g, 144, .inl x.2.2.2.2.2.2.2.2.1))]]) rfl rfl pm_39 rfl rfl rfl (fun H locs hW => ?_)
              refine lv_if_eq (tgt := 31) hx hb dX6_readable_24 (by decide) (fun e5 => ?_) (fun e5 => ?_)
              · replace h := q_t e5 h
                refine lv_iconst (v := 0) hx hb dX6_readable_31 (by decide) ?_
                refine lv_iadd hx hb dX6_readable_32 ?_
                refine lv_istore_n (lv' := [(1, .int (v11.1 + 0)), (0, .ref (A b)), (2, .int v4.2), (3, .int v11.2)]) hx hb dX6_readable_33 rfl hl (by decide) rfl (fun ls hl => ?_)
                refine lv_iinc (v := (v11.2 + 1)) (lv' := [(3, .int (v11.2 + 1)), (1, .int (v11.1 + 0)), (0, .ref (A b)), (2, .int v4.2)]) hx hb dX6_readable_34 hl (k := 3) rfl rfl (by decide) rfl (fun ls hl => ?_)
                refine lv_goto (tgt := 11) hx hb dX6_readable_37 (by decide) ?_
                exact ih11 ((v11.1 + 0), (v11.2 + 1)) h _ _ hW _ (lv_sub hl [2, 1, 3, 0] rfl)
              · replace h := q_f e5 h
                refine lv_iconst (v := 1) hx hb dX6_readable_27 (by decide) ?_
                refine lv_goto (tgt := 32) hx hb dX6_readable_28 (by decide) ?_
                refine lv_iadd hx hb dX6_readable_32 ?_
                refine lv_istore_n (lv' := [(1, .int (v11.1 + 1)), (0, .ref (A b)), (2, .int v4.2), (3, .int v11.2)]) hx hb dX6_readable_33 rfl hl (by decide) rfl (fun ls hl => ?_)
                refine lv_iinc (v := (v11.2 + 1)) (lv' := [(3, .int (v11.2 + 1)), (1, .int (v11.1 + 1)), (0, .ref (A b)), (2, .int v4.2)]) hx hb dX6_readable_34 hl (k := 3) rfl rfl (by decide) rfl (fun ls hl => ?_)
                refine lv_goto (tgt := 11) hx hb dX6_readable_37 (by decide) ?_
                exact ih11 ((v11.1 + 1), (v11.2 + 1)) h _ _ hW _ (lv_sub hl [2, 1, 3, 0] rfl)
        exact L11 3000 (v4.1, 0) h _ _ hW _ (lv_sub hl [1, 2, 3, 0] rfl)
  exact L4 3000 (0, 0) h _ _ hW _ (lv_sub hl [2, 1, 0] rfl)
def f_X6_strengths_l5 (x : TX6s) (k5 : (Int32 × Int32) → Option (Int32)) (v5 : Int32 × Int32) : Option (Int32) :=
if 268 ≤ v5.2 then (
some v5.1)
else (
if v5.2 < 0 ∨ 268 ≤ (v5.2).toNatClampNeg then none else
k5 ((v5.1 + (x.1 (v5.2).toNatClampNeg)), (v5.2 + 2)))
def f_X6_strengths (x : TX6s) : Option (Int32) :=
lpN (f_X6_strengths_l5 x) 3000 (0, 13)
theorem wo_X6_strengths : wordsOk yX6_strengths 0 := by decide +kernel
theorem inX6_strengths_X6 : ∀ w ∈ wsX60, w ∈ wsX6_strengths := fun _ h => List.mem_cons_of_mem _ (List.mem_append_right _ h)
set_option maxHeartbeats 4000000 in
set_option maxRecDepth 100000 in
theorem c_X6_strengths (l : Launch) (g : GG) (A : Nat → Nat) (b : Nat) (x : TX6s) (r : Int32) (h : f_X6_strengths x = some r) : CI l yX6_strengths wsX6_strengths 0 0 g [.ref (A b)] (wX6 g A b x) r (wX6 g A b x) := by
  refine CI.mk (own := RX6) (by decide) rfl rfl (Nat.le_of_ble_eq_true rfl) ?_
  intro p e R s m args below meth c Z Q C E hR H hW ls hl
  have hx := C.1.1
  have hb := C.1.2.1
  have hown := C.1.2.2.2.1
  replace hW : WdG g Z s.heap H [] [[(A b, .inr (6, [.ref (A (b + 1)), .ref (A (b + 2)), .int x.2.2.1, .ref (A (b + 3)), .int x.2.2.2.2.1, .ref (A (b + 4)), .int x.2.2.2.2.2.2.1, .ref (A (b + 5)), .ref (A (b + 6)), .int x.2.2.2.2.2.2.2.2.2.1, .int x.2.2.2.2.2.2.2.2.2.2.1, .int x.2.2.2.2.2.2.2.2.2.2.2]))], [(A (b + 1), .inl (gI g, 268, .inl x.1))], [(A (b + 2), .inl (gI g, 1340, .inl x.2.1))], [(A (b + 3), .inl (gI g, 268, .inl x.2.2.2.1))], [(A (b + 4), .inl (gC g, 70, .inl x.2.2.2.2.2.1))], [(A (b + 5), .inl (gI g, 3, .inl x.2.2.2.2.2.2.2.1))], [(A (b + 6), .inl (gI g, 144, .inl x.2.2.2.2.2.2.2.2.1))]] := hW.re rfl
  replace hl : lv_has ls 3 [(0, .ref (A b))] := hl
  unfold f_X6_strengths at h
  refine lv_iconst (v := 0) hx hb dX6_strengths_0 (by decide) ?_
  refine lv_istore_n (lv' := [(1, .int 0), (0, .ref (A b))]) hx hb dX6_strengths_1 rfl hl (by decide) rfl (fun ls hl => ?_)
  refine lv_bipush (v := 13) hx hb dX6_strengths_2 (by decide) ?_
  refine lv_istore_n (lv' := [(2, .int 13), (1, .int 0), (0, .ref (A b))]) hx hb dX6_strengths_4 rfl hl (by decide) rfl (fun ls hl => ?_)
  have L5 : ∀ n5 : Nat, ∀ (v5 : Int32 × Int32), lpN (f_X6_strengths_l5 x) n5 v5 = some r → ∀ (H : Heap) (locs : List Loc), WdG g Z s.heap H locs [[(A b, .inr (6, [.ref (A (b + 1)), .ref (A (b + 2)), .int x.2.2.1, .ref (A (b + 3)), .int x.2.2.2.2.1, .ref (A (b + 4)), .int x.2.2.2.2.2.2.1, .ref (A (b + 5)), .ref (A (b + 6)), .int x.2.2.2.2.2.2.2.2.2.1, .int x.2.2.2.2.2.2.2.2.2.2.1, .int x.2.2.2.2.2.2.2.2.2.2.2]))], [(A (b + 1), .inl (gI g, 268, .inl x.1))], [(A (b + 2), .inl (gI g, 1340, .inl x.2.1))], [(A (b + 3), .inl (gI g, 268, .inl x.2.2.2.1))], [(A (b + 4), .inl (gC g, 70, .inl x.2.2.2.2.2.1))], [(A (b + 5), .inl (gI g, 3, .inl x.2.2.2.2.2.2.2.1))], [(A (b + 6), .inl (gI g, 144, .inl x.2.2.2.2.2.2.2.2.1))]] → ∀ ls : Array Slot, lv_has ls 3 [(0, .ref (A b)), (1, .int v5.1), (2, .int v5.2)] → W p l e R s m args below meth c H locs 0 0 Q (F0 m 5 ls []) := by
    intro n5
    induction n5 with
    | zero => intro v5 h; exact absurd (show none = some r from h) (fun h => by cases h)
    | succ n5 ih5 =>
      intro v5 h H locs hW ls hl
      replace h : f_X6_strengths_l5 x (lpN (f_X6_strengths_l5 x) n5) v5 = some r := h
      unfold f_X6_strengths_l5 at h
      refine lv_iload_n hx hb dX6_strengths_5 rfl (lv_at hl 2 rfl) ?_
      refine lv_sipush (v := 268) hx hb dX6_strengths_6 (by decide) ?_
      refine lv_icmp_ge (tgt := 27) hx hb dX6_strengths_9 (by decide) (fun e1 => ?_) (fun e1 => ?_)
      · replace h := q_t e1 h
        refine lv_iload_n hx hb dX6_strengths_27 rfl (lv_at hl 1 rfl) ?_
        cases h
        exact E _ _ _ _ _ hW rfl rfl dX6_strengths_28
      · replace h := q_f e1 h
        refine lv_iload_n hx hb dX6_strengths_12 rfl (lv_at hl 1 rfl) ?_
        refine lv_aload_n hx hb dX6_strengths_13 rfl (lv_at hl 0 rfl) ?_
        refine r_get C hW (K := RX6) (T := TX6) (N := 12) (v := .ref (A (b + 1))) 0 0 0 rfl rfl rfl inX6_strengths_X6 (by decide) (List.mem_of_getElem? (i := 1) rfl) rfl rfl dX6_strengths_14 ?_
        refine lv_iload_n hx hb dX6_strengths_17 rfl (lv_at hl 2 rfl) ?_
        obtain ⟨g2, h⟩ := q_g h
        refine r_iald C hW 1 0 rfl rfl g2 dX6_strengths_18 ?_
        refine lv_iadd hx hb dX6_strengths_19 ?_
        refine lv_istore_n (lv' := [(1, .int (v5.1 + (x.1 (v5.2).toNatClampNeg))), (0, .ref (A b)), (2, .int v5.2)]) hx hb dX6_strengths_20 rfl hl (by decide) rfl (fun ls hl => ?_)
        refine lv_iinc (v := (v5.2 + 2)) (lv' := [(2, .int (v5.2 + 2)), (1, .int (v5.1 + (x.1 (v5.2).toNatClampNeg))), (0, .ref (A b))]) hx hb dX6_strengths_21 hl (k := 2) rfl rfl (by decide) rfl (fun ls hl => ?_)
        refine lv_goto (tgt := 5) hx hb dX6_strengths_24 (by decide) ?_
        exact ih5 ((v5.1 + (x.1 (v5.2).toNatClampNeg)), (v5.2 + 2)) h _ _ hW _ (lv_sub hl [2, 1, 0] rfl)
  exact L5 3000 (0, 13) h _ _ hW _ (lv_sub hl [2, 1, 0] rfl)
def f_X6_dashes_l6 (x : TX6s) (k6 : (Int32 × Int32) → Option (Int32)) (v6 : Int32 × Int32) : Option (Int32) :=
if 268 ≤ v6.2 then (
some v6.1)
else (
if v6.2 < 0 ∨ 268 ≤ (v6.2).toNatClampNeg then none else
if (x.1 (v6.2).toNatClampNeg) ≤ 0 then (
k6 ((v6.1 + 0), (v6.2 + 2)))
else (
k6 ((v6.1 + 1), (v6.2 + 2))))
def f_X6_dashes (x : TX6s) : Option (Int32) :=
lpN (f_X6_dashes_l6 x) 3000 (0, 204)
theorem wo_X6_dashes : wordsOk yX6_dashes 0 := by decide +kernel
theorem inX6_dashes_X6 : ∀ w ∈ wsX60, w ∈ wsX6_dashes := fun _ h => List.mem_cons_of_mem _ (List.mem_append_right _ h)
set_option maxHeartbeats 4000000 in
set_option maxRecDepth 100000 in
theorem c_X6_dashes (l : Launch) (g : GG) (A : Nat → Nat) (b : Nat) (x : TX6s) (r : Int32) (h : f_X6_dashes x = some r) : CI l yX6_dashes wsX6_dashes 0 0 g [.ref (A b)] (wX6 g A b x) r (wX6 g A b x) := by
  refine CI.mk (own := RX6) (by decide) rfl rfl (Nat.le_of_ble_eq_true rfl) ?_
  intro p e R s m args below meth c Z Q C E hR H hW ls hl
  have hx := C.1.1
  have hb := C.1.2.1
  have hown := C.1.2.2.2.1
  replace hW : WdG g Z s.heap H [] [[(A b, .inr (6, [.ref (A (b + 1)), .ref (A (b + 2)), .int x.2.2.1, .ref (A (b + 3)), .int x.2.2.2.2.1, .ref (A (b + 4)), .int x.2.2.2.2.2.2.1, .ref (A (b + 5)), .ref (A (b + 6)), .int x.2.2.2.2.2.2.2.2.2.1, .int x.2.2.2.2.2.2.2.2.2.2.1, .int x.2.2.2.2.2.2.2.2.2.2.2]))], [(A (b + 1), .inl (gI g, 268, .inl x.1))], [(A (b + 2), .inl (gI g, 1340, .inl x.2.1))], [(A (b + 3), .inl (gI g, 268, .inl x.2.2.2.1))], [(A (b + 4), .inl (gC g, 70, .inl x.2.2.2.2.2.1))], [(A (b + 5), .inl (gI g, 3, .inl x.2.2.2.2.2.2.2.1))], [(A (b + 6), .inl (gI g, 144, .inl x.2.2.2.2.2.2.2.2.1))]] := hW.re rfl
  replace hl : lv_has ls 3 [(0, .ref (A b))] := hl
  unfold f_X6_dashes at h
  refine lv_iconst (v := 0) hx hb dX6_dashes_0 (by decide) ?_
  refine lv_istore_n (lv' := [(1, .int 0), (0, .ref (A b))]) hx hb dX6_dashes_1 rfl hl (by decide) rfl (fun ls hl => ?_)
  refine lv_sipush (v := 204) hx hb dX6_dashes_2 (by decide) ?_
  refine lv_istore_n (lv' := [(2, .int 204), (1, .int 0), (0, .ref (A b))]) hx hb dX6_dashes_5 rfl hl (by decide) rfl (fun ls hl => ?_)
  have L6 : ∀ n6 : Nat, ∀ (v6 : Int32 × Int32), lpN (f_X6_dashes_l6 x) n6 v6 = some r → ∀ (H : Heap) (locs : List Loc), WdG g Z s.heap H locs [[(A b, .inr (6, [.ref (A (b + 1)), .ref (A (b + 2)), .int x.2.2.1, .ref (A (b + 3)), .int x.2.2.2.2.1, .ref (A (b + 4)), .int x.2.2.2.2.2.2.1, .ref (A (b + 5)), .ref (A (b + 6)), .int x.2.2.2.2.2.2.2.2.2.1, .int x.2.2.2.2.2.2.2.2.2.2.1, .int x.2.2.2.2.2.2.2.2.2.2.2]))], [(A (b + 1), .inl (gI g, 268, .inl x.1))], [(A (b + 2), .inl (gI g, 1340, .inl x.2.1))], [(A (b + 3), .inl (gI g, 268, .inl x.2.2.2.1))], [(A (b + 4), .inl (gC g, 70, .inl x.2.2.2.2.2.1))], [(A (b + 5), .inl (gI g, 3, .inl x.2.2.2.2.2.2.2.1))], [(A (b + 6), .inl (gI g, 144, .inl x.2.2.2.2.2.2.2.2.1))]] → ∀ ls : Array Slot, lv_has ls 3 [(0, .ref (A b)), (1, .int v6.1), (2, .int v6.2)] → W p l e R s m args below meth c H locs 0 0 Q (F0 m 6 ls []) := by
    intro n6
    induction n6 with
    | zero => intro v6 h; exact absurd (show none = some r from h) (fun h => by cases h)
    | succ n6 ih6 =>
      intro v6 h H locs hW ls hl
      replace h : f_X6_dashes_l6 x (lpN (f_X6_dashes_l6 x) n6) v6 = some r := h
      unfold f_X6_dashes_l6 at h
      refine lv_iload_n hx hb dX6_dashes_6 rfl (lv_at hl 2 rfl) ?_
      refine lv_sipush (v := 268) hx hb dX6_dashes_7 (by decide) ?_
      refine lv_icmp_ge (tgt := 36) hx hb dX6_dashes_10 (by decide) (fun e1 => ?_) (fun e1 => ?_)
      · replace h := q_t e1 h
        refine lv_iload_n hx hb dX6_dashes_36 rfl (lv_at hl 1 rfl) ?_
        cases h
        exact E _ _ _ _ _ hW rfl rfl dX6_dashes_37
      · replace h := q_f e1 h
        refine lv_iload_n hx hb dX6_dashes_13 rfl (lv_at hl 1 rfl) ?_
        refine lv_aload_n hx hb dX6_dashes_14 rfl (lv_at hl 0 rfl) ?_
        refine r_get C hW (K := RX6) (T := TX6) (N := 12) (v := .ref (A (b + 1))) 0 0 0 rfl rfl rfl inX6_dashes_X6 (by decide) (List.mem_of_getElem? (i := 1) rfl) rfl rfl dX6_dashes_15 ?_
        refine lv_iload_n hx hb dX6_dashes_18 rfl (lv_at hl 2 rfl) ?_
        obtain ⟨g2, h⟩ := q_g h
        refine r_iald C hW 1 0 rfl rfl g2 dX6_dashes_19 ?_
        refine lv_if_le (tgt := 27) hx hb dX6_dashes_20 (by decide) (fun e3 => ?_) (fun e3 => ?_)
        · replace h := q_t e3 h
          refine lv_iconst (v := 0) hx hb dX6_dashes_27 (by decide) ?_
          refine lv_iadd hx hb dX6_dashes_28 ?_
          refine lv_istore_n (lv' := [(1, .int (v6.1 + 0)), (0, .ref (A b)), (2, .int v6.2)]) hx hb dX6_dashes_29 rfl hl (by decide) rfl (fun ls hl => ?_)
          refine lv_iinc (v := (v6.2 + 2)) (lv' := [(2, .int (v6.2 + 2)), (1, .int (v6.1 + 0)), (0, .ref (A b))]) hx hb dX6_dashes_30 hl (k := 2) rfl rfl (by decide) rfl (fun ls hl => ?_)
          refine lv_goto (tgt := 6) hx hb dX6_dashes_33 (by decide) ?_
          exact ih6 ((v6.1 + 0), (v6.2 + 2)) h _ _ hW _ (lv_sub hl [2, 1, 0] rfl)
        · replace h := q_f e3 h
          refine lv_iconst (v := 1) hx hb dX6_dashes_23 (by decide) ?_
          refine lv_goto (tgt := 28) hx hb dX6_dashes_24 (by decide) ?_
          refine lv_iadd hx hb dX6_dashes_28 ?_
          refine lv_istore_n (lv' := [(1, .int (v6.1 + 1)), (0, .ref (A b)), (2, .int v6.2)]) hx hb dX6_dashes_29 rfl hl (by decide) rfl (fun ls hl => ?_)
          refine lv_iinc (v := (v6.2 + 2)) (lv' := [(2, .int (v6.2 + 2)), (1, .int (v6.1 + 1)), (0, .ref (A b))]) hx hb dX6_dashes_30 hl (k := 2) rfl rfl (by decide) rfl (fun ls hl => ?_)
          refine lv_goto (tgt := 6) hx hb dX6_dashes_33 (by decide) ?_
          exact ih6 ((v6.1 + 1), (v6.2 + 2)) h _ _ hW _ (lv_sub hl [2, 1, 0] rfl)
  exact L6 3000 (0, 204) h _ _ hW _ (lv_sub hl [2, 1, 0] rfl)
