def f_X6_errorPosition_j71 (k18 : (Int32 × TX6s) → Option (Int32 × TX6s)) (t2 : TX6s) (w71 : Int32) : Option (Int32 × TX6s) :=
(f_X6_wants t2 w71).bind fun t7 =>
if t7.2.2.2.2.2.2.2.2.2.2.2 = (-6) then (
k18 (1, t7))
else (
k18 (0, t7))
def f_X6_errorPosition_j51 (k18 : (Int32 × TX6s) → Option (Int32 × TX6s)) (t2 : TX6s) (w51 : Int32) : Option (Int32 × TX6s) :=
if w51 = 0 then (
k18 (w51, t2))
else (
(f_X6_letter t2).bind fun t5 =>
if t5 = 59 then (
f_X6_errorPosition_j71 k18 t2 1)
else (
f_X6_errorPosition_j71 k18 t2 0))
def f_X6_errorPosition_j50 (k18 : (Int32 × TX6s) → Option (Int32 × TX6s)) (t2 : TX6s) (w50 : Unit) : Option (Int32 × TX6s) :=
f_X6_errorPosition_j51 k18 t2 0
def f_X6_errorPosition_l18 (k18 : (Int32 × TX6s) → Option (Int32 × TX6s)) (v18 : Int32 × TX6s) : Option (Int32 × TX6s) :=
if v18.1 = 0 then (
some (v18.2.2.2.2.2.2.2.2.2.2.2.2, v18.2))
else (
(f_X6_readOrder v18.2).bind fun t2 =>
if t2.2.2.2.2.2.2.2.2.2.2.2 = (-6) then (
if t2.2.2.2.2.2.2.1 ≤ t2.2.2.2.2.2.2.2.2.2.2.1 then (
f_X6_errorPosition_j50 k18 t2 ())
else (
f_X6_errorPosition_j51 k18 t2 1))
else (
f_X6_errorPosition_j50 k18 t2 ()))
def f_X6_errorPosition (x : TX6s) : Option (Int32 × TX6s) :=
lpN f_X6_errorPosition_l18 3000 (1, (x.1, x.2.1, x.2.2.1, x.2.2.2.1, x.2.2.2.2.1, x.2.2.2.2.2.1, x.2.2.2.2.2.2.1, x.2.2.2.2.2.2.2.1, x.2.2.2.2.2.2.2.2.1, 0, 0, (-6)))
theorem wo_X6_errorPosition : wordsOk yX6_errorPosition 0 := by decide +kernel
theorem inX6_errorPosition_X6 : ∀ w ∈ wsX60, w ∈ wsX6_errorPosition := fun _ h => List.mem_cons_of_mem _ (List.mem_append_right _ h)
set_option maxHeartbeats 4000000 in
set_option maxRecDepth 100000 in
theorem c_X6_errorPosition (l : Launch) (g : GG) (A : Nat → Nat) (b : Nat) (x : TX6s) (r : Int32) (x' : TX6s) (h : f_X6_errorPosition x = some (r, x')) : CI l yX6_errorPosition wsX6_errorPosition 3 66 g [.ref (A b)] (wX6 g A b x) r (wX6 g A b x') := by
  refine CI.mk (own := RX6) (by decide) rfl rfl (Nat.le_of_ble_eq_true rfl) ?_
  intro p e R s m args below meth c Z Q C E hR H hW ls hl
  have hx := C.1.1
  have hb := C.1.2.1
  have hown := C.1.2.2.2.1
  replace hW : WdG g Z s.heap H [] [[(A b, .inr (6, [.ref (A (b + 1)), .ref (A (b + 2)), .int x.2.2.1, .ref (A (b + 3)), .int x.2.2.2.2.1, .ref (A (b + 4)), .int x.2.2.2.2.2.2.1, .ref (A (b + 5)), .ref (A (b + 6)), .int x.2.2.2.2.2.2.2.2.2.1, .int x.2.2.2.2.2.2.2.2.2.2.1, .int x.2.2.2.2.2.2.2.2.2.2.2]))], [(A (b + 1), .inl (gI g, 268, .inl x.1))], [(A (b + 2), .inl (gI g, 1340, .inl x.2.1))], [(A (b + 3), .inl (gI g, 268, .inl x.2.2.2.1))], [(A (b + 4), .inl (gC g, 70, .inl x.2.2.2.2.2.1))], [(A (b + 5), .inl (gI g, 3, .inl x.2.2.2.2.2.2.2.1))], [(A (b + 6), .inl (gI g, 144, .inl x.2.2.2.2.2.2.2.2.1))]] := hW.re rfl
  replace hl : lv_has ls 2 [(0, .ref (A b))] := hl
  unfold f_X6_errorPosition at h
  refine lv_aload_n hx hb dX6_errorPosition_0 rfl (lv_at hl 0 rfl) ?_
  refine lv_iconst (v := 0) hx hb dX6_errorPosition_1 (by decide) ?_
  refine r_put C hW (bs' := [[(A b, .inr (6, [.ref (A (b + 1)), .ref (A (b + 2)), .int x.2.2.1, .ref (A (b + 3)), .int x.2.2.2.2.1, .ref (A (b + 4)), .int x.2.2.2.2.2.2.1, .ref (A (b + 5)), .ref (A (b + 6)), .int 0, .int x.2.2.2.2.2.2.2.2.2.2.1, .int x.2.2.2.2.2.2.2.2.2.2.2]))], [(A (b + 1), .inl (gI g, 268, .inl x.1))], [(A (b + 2), .inl (gI g, 1340, .inl x.2.1))], [(A (b + 3), .inl (gI g, 268, .inl x.2.2.2.1))], [(A (b + 4), .inl (gC g, 70, .inl x.2.2.2.2.2.1))], [(A (b + 5), .inl (gI g, 3, .inl x.2.2.2.2.2.2.2.1))], [(A (b + 6), .inl (gI g, 144, .inl x.2.2.2.2.2.2.2.2.1))]]) (K := RX6) (T := TX6) (N := 12) 0 0 9 rfl rfl rfl inX6_errorPosition_X6 tyX6 tyX6_ok nmX6 (by decide) (List.mem_of_getElem? (i := 1) rfl) rfl rfl (tyX6_ok 9 (by decide)) rfl rfl (Nat.le_of_ble_eq_true rfl) dX6_errorPosition_2 rfl (fun H locs hW => ?_)
  refine lv_aload_n hx hb dX6_errorPosition_5 rfl (lv_at hl 0 rfl) ?_
  refine lv_iconst (v := 0) hx hb dX6_errorPosition_6 (by decide) ?_
  refine r_put C hW (bs' := [[(A b, .inr (6, [.ref (A (b + 1)), .ref (A (b + 2)), .int x.2.2.1, .ref (A (b + 3)), .int x.2.2.2.2.1, .ref (A (b + 4)), .int x.2.2.2.2.2.2.1, .ref (A (b + 5)), .ref (A (b + 6)), .int 0, .int 0, .int x.2.2.2.2.2.2.2.2.2.2.2]))], [(A (b + 1), .inl (gI g, 268, .inl x.1))], [(A (b + 2), .inl (gI g, 1340, .inl x.2.1))], [(A (b + 3), .inl (gI g, 268, .inl x.2.2.2.1))], [(A (b + 4), .inl (gC g, 70, .inl x.2.2.2.2.2.1))], [(A (b + 5), .inl (gI g, 3, .inl x.2.2.2.2.2.2.2.1))], [(A (b + 6), .inl (gI g, 144, .inl x.2.2.2.2.2.2.2.2.1))]]) (K := RX6) (T := TX6) (N := 12) 0 0 10 rfl rfl rfl inX6_errorPosition_X6 tyX6 tyX6_ok nmX6 (by decide) (List.mem_of_getElem? (i := 2) rfl) rfl rfl (tyX6_ok 10 (by decide)) rfl rfl (Nat.le_of_ble_eq_true rfl) dX6_errorPosition_7 rfl (fun H locs hW => ?_)
  refine lv_aload_n hx hb dX6_errorPosition_10 rfl (lv_at hl 0 rfl) ?_
  refine lv_bipush (v := (-6)) hx hb dX6_errorPosition_11 (by decide) ?_
  refine r_put C hW (bs' := [[(A b, .inr (6, [.ref (A (b + 1)), .ref (A (b + 2)), .int x.2.2.1, .ref (A (b + 3)), .int x.2.2.2.2.1, .ref (A (b + 4)), .int x.2.2.2.2.2.2.1, .ref (A (b + 5)), .ref (A (b + 6)), .int 0, .int 0, .int (-6)]))], [(A (b + 1), .inl (gI g, 268, .inl x.1))], [(A (b + 2), .inl (gI g, 1340, .inl x.2.1))], [(A (b + 3), .inl (gI g, 268, .inl x.2.2.2.1))], [(A (b + 4), .inl (gC g, 70, .inl x.2.2.2.2.2.1))], [(A (b + 5), .inl (gI g, 3, .inl x.2.2.2.2.2.2.2.1))], [(A (b + 6), .inl (gI g, 144, .inl x.2.2.2.2.2.2.2.2.1))]]) (K := RX6) (T := TX6) (N := 12) 0 0 11 rfl rfl rfl inX6_errorPosition_X6 tyX6 tyX6_ok nmX6 (by decide) (List.mem_of_getElem? (i := 3) rfl) rfl rfl (tyX6_ok 11 (by decide)) rfl rfl (Nat.le_of_ble_eq_true rfl) dX6_errorPosition_13 rfl (fun H locs hW => ?_)
  refine lv_iconst (v := 1) hx hb dX6_errorPosition_16 (by decide) ?_
  refine lv_istore_n (lv' := [(1, .int 1), (0, .ref (A b))]) hx hb dX6_errorPosition_17 rfl hl (by decide) rfl (fun ls hl => ?_)
  have L18 : ∀ n18 : Nat, ∀ (v18 : Int32 × TX6s), lpN f_X6_errorPosition_l18 n18 v18 = some (r, x') → ∀ (H : Heap) (locs : List Loc), WdG g Z s.heap H locs [[(A b, .inr (6, [.ref (A (b + 1)), .ref (A (b + 2)), .int v18.2.2.2.1, .ref (A (b + 3)), .int v18.2.2.2.2.2.1, .ref (A (b + 4)), .int v18.2.2.2.2.2.2.2.1, .ref (A (b + 5)), .ref (A (b + 6)), .int v18.2.2.2.2.2.2.2.2.2.2.1, .int v18.2.2.2.2.2.2.2.2.2.2.2.1, .int v18.2.2.2.2.2.2.2.2.2.2.2.2]))], [(A (b + 1), .inl (gI g, 268, .inl v18.2.1))], [(A (b + 2), .inl (gI g, 1340, .inl v18.2.2.1))], [(A (b + 3), .inl (gI g, 268, .inl v18.2.2.2.2.1))], [(A (b + 4), .inl (gC g, 70, .inl v18.2.2.2.2.2.2.1))], [(A (b + 5), .inl (gI g, 3, .inl v18.2.2.2.2.2.2.2.2.1))], [(A (b + 6), .inl (gI g, 144, .inl v18.2.2.2.2.2.2.2.2.2.1))]] → ∀ ls : Array Slot, lv_has ls 2 [(0, .ref (A b)), (1, .int v18.1)] → W p l e R s m args below meth c H locs 0 0 Q (F0 m 18 ls []) := by
    intro n18
    induction n18 with
    | zero => intro v18 h; exact absurd (show none = some (r, x') from h) (fun h => by cases h)
    | succ n18 ih18 =>
      intro v18 h H locs hW ls hl
      replace h : f_X6_errorPosition_l18 (lpN f_X6_errorPosition_l18 n18) v18 = some (r, x') := h
      unfold f_X6_errorPosition_l18 at h
      refine lv_iload_n hx hb dX6_errorPosition_18 rfl (lv_at hl 1 rfl) ?_
      refine lv_if_eq (tgt := 92) hx hb dX6_errorPosition_19 (by decide) (fun e1 => ?_) (fun e1 => ?_)
      · replace h := q_t e1 h
        refine lv_aload_n hx hb dX6_errorPosition_92 rfl (lv_at hl 0 rfl) ?_
        refine r_get C hW (K := RX6) (T := TX6) (N := 12) (v := .int v18.2.2.2.2.2.2.2.2.2.2.2.2) 0 0 11 rfl rfl rfl inX6_errorPosition_X6 (by decide) (List.mem_of_getElem? (i := 3) rfl) rfl rfl dX6_errorPosition_93 ?_
        cases h
        exact E _ _ _ _ _ hW rfl rfl dX6_errorPosition_96
      · replace h := q_f e1 h
        refine lv_aload_n hx hb dX6_errorPosition_22 rfl (lv_at hl 0 rfl) ?_
        obtain ⟨t2, h3, h⟩ := q_b h
        refine r_cVv C hW (nA := 0) (As := []) (rest := []) (c_X6_readOrder l g A b v18.2 _ h3) gX6_errorPosition_X6_readOrder rfl ⟨rfl, wo_X6_readOrder⟩ (rmk hR rfl rfl) rfl rfl rfl rfl hl.1 (Nat.le_of_ble_eq_true rfl) rz dX6_errorPosition_23 (n := 7) (is := [0, 1, 2, 3, 4, 5, 6]) (rs := []) (bs' := [[(A b, .inr (6, [.ref (A (b + 1)), .ref (A (b + 2)), .int t2.2.2.1, .ref (A (b + 3)), .int t2.2.2.2.2.1, .ref (A (b + 4)), .int t2.2.2.2.2.2.2.1, .ref (A (b + 5)), .ref (A (b + 6)), .int t2.2.2.2.2.2.2.2.2.2.1, .int t2.2.2.2.2.2.2.2.2.2.2.1, .int t2.2.2.2.2.2.2.2.2.2.2.2]))], [(A (b + 1), .inl (gI g, 268, .inl t2.1))], [(A (b + 2), .inl (gI g, 1340, .inl t2.2.1))], [(A (b + 3), .inl (gI g, 268, .inl t2.2.2.2.1))], [(A (b + 4), .inl (gC g, 70, .inl t2.2.2.2.2.2.1))], [(A (b + 5), .inl (gI g, 3, .inl t2.2.2.2.2.2.2.2.1))], [(A (b + 6), .inl (gI g, 144, .inl t2.2.2.2.2.2.2.2.2.1))]]) rfl rfl pm_39 rfl rfl rfl (fun H locs hW => ?_)
        refine lv_aload_n hx hb dX6_errorPosition_26 rfl (lv_at hl 0 rfl) ?_
        refine r_get C hW (K := RX6) (T := TX6) (N := 12) (v := .int t2.2.2.2.2.2.2.2.2.2.2.2) 0 0 11 rfl rfl rfl inX6_errorPosition_X6 (by decide) (List.mem_of_getElem? (i := 3) rfl) rfl rfl dX6_errorPosition_27 ?_
        refine lv_bipush (v := (-6)) hx hb dX6_errorPosition_30 (by decide) ?_
        have J51 : ∀ (w51 : Int32), f_X6_errorPosition_j51 (lpN f_X6_errorPosition_l18 n18) t2 w51 = some (r, x') → ∀ (H : Heap) (locs : List Loc), WdG g Z s.heap H locs [[(A b, .inr (6, [.ref (A (b + 1)), .ref (A (b + 2)), .int t2.2.2.1, .ref (A (b + 3)), .int t2.2.2.2.2.1, .ref (A (b + 4)), .int t2.2.2.2.2.2.2.1, .ref (A (b + 5)), .ref (A (b + 6)), .int t2.2.2.2.2.2.2.2.2.2.1, .int t2.2.2.2.2.2.2.2.2.2.2.1, .int t2.2.2.2.2.2.2.2.2.2.2.2]))], [(A (b + 1), .inl (gI g, 268, .inl t2.1))], [(A (b + 2), .inl (gI g, 1340, .inl t2.2.1))], [(A (b + 3), .inl (gI g, 268, .inl t2.2.2.2.1))], [(A (b + 4), .inl (gC g, 70, .inl t2.2.2.2.2.2.1))], [(A (b + 5), .inl (gI g, 3, .inl t2.2.2.2.2.2.2.2.1))], [(A (b + 6), .inl (gI g, 144, .inl t2.2.2.2.2.2.2.2.2.1))]] → ∀ ls : Array Slot, lv_has ls 2 [(0, .ref (A b))] → W p l e R s m args below meth c H locs 0 0 Q (F0 m 51 ls [.int w51]) := by
          intro w51 h H locs hW ls hl
          unfold f_X6_errorPosition_j51 at h
          refine lv_istore_n (lv' := [(1, .int w51), (0, .ref (A b))]) hx hb dX6_errorPosition_51 rfl hl (by decide) rfl (fun ls hl => ?_)
          refine lv_iload_n hx hb dX6_errorPosition_52 rfl (lv_at hl 0 rfl) ?_
          refine lv_if_eq (tgt := 18) hx hb dX6_errorPosition_53 (by decide) (fun e4 => ?_) (fun e4 => ?_)
          · replace h := q_t e4 h
            exact ih18 (w51, t2) h _ _ hW _ (lv_sub hl [1, 0] rfl)
          · replace h := q_f e4 h
            refine lv_aload_n hx hb dX6_errorPosition_56 rfl (lv_at hl 1 rfl) ?_
            refine lv_aload_n hx hb dX6_errorPosition_57 rfl (lv_at hl 1 rfl) ?_
            obtain ⟨t5, h6, h⟩ := q_b h
            refine r_cVi C hW (nA := 0) (As := []) (rest := [.ref (A b)]) (c_X6_letter l g A b t2 _ h6) gX6_errorPosition_X6_letter rfl ⟨rfl, wo_X6_letter⟩ (rmk hR rfl rfl) rfl rfl rfl rfl hl.1 (Nat.le_of_ble_eq_true rfl) rz dX6_errorPosition_58 (n := 7) (is := [0, 1, 2, 3, 4, 5, 6]) (rs := []) (bs' := [[(A b, .inr (6, [.ref (A (b + 1)), .ref (A (b + 2)), .int t2.2.2.1, .ref (A (b + 3)), .int t2.2.2.2.2.1, .ref (A (b + 4)), .int t2.2.2.2.2.2.2.1, .ref (A (b + 5)), .ref (A (b + 6)), .int t2.2.2.2.2.2.2.2.2.2.1, .int t2.2.2.2.2.2.2.2.2.2.2.1, .int t2.2.2.2.2.2.2.2.2.2.2.2]))], [(A (b + 1), .inl (gI g, 268, .inl t2.1))], [(A (b + 2), .inl (gI g, 1340, .inl t2.2.1))], [(A (b + 3), .inl (gI g, 268, .inl t2.2.2.2.1))], [(A (b + 4), .inl (gC g, 70, .inl t2.2.2.2.2.2.1))], [(A (b + 5), .inl (gI g, 3, .inl t2.2.2.2.2.2.2.2.1))], [(A (b + 6), .inl (gI g, 144, .inl t2.2.2.2.2.2.2.2.2.1))]]) rfl rfl pm_39 rfl rfl rfl (fun H locs hW => ?_)
            refine lv_bipush (v := 59) hx hb dX6_errorPosition_61 (by decide) ?_
            have J71 : ∀ (w71 : Int32), f_X6_errorPosition_j71 (lpN f_X6_errorPosition_l18 n18) t2 w71 = some (r, x') → ∀ (H : Heap) (locs : List Loc), WdG g Z s.heap H locs [[(A b, .inr (6, [.ref (A (b + 1)), .ref (A (b + 2)), .int t2.2.2.1, .ref (A (b + 3)), .int t2.2.2.2.2.1, .ref (A (b + 4)), .int t2.2.2.2.2.2.2.1, .ref (A (b + 5)), .ref (A (b + 6)), .int t2.2.2.2.2.2.2.2.2.2.1, .int t2.2.2.2.2.2.2.2.2.2.2.1, .int t2.2.2.2.2.2.2.2.2.2.2.2]))], [(A (b + 1), .inl (gI g, 268, .inl t2.1))], [(A (b + 2), .inl (gI g, 1340, .inl t2.2.1))], [(A (b + 3), .inl (gI g, 268, .inl t2.2.2.2.1))], [(A (b + 4), .inl (gC g, 70, .inl t2.2.2.2.2.2.1))], [(A (b + 5), .inl (gI g, 3, .inl t2.2.2.2.2.2.2.2.1))], [(A (b + 6), .inl (gI g, 144, .inl t2.2.2.2.2.2.2.2.2.1))]] → ∀ ls : Array Slot, lv_has ls 2 [(0, .ref (A b))] → W p l e R s m args below meth c H locs 0 0 Q (F0 m 71 ls [.int w71, .ref (A b)]) := by
              intro w71 h H locs hW ls hl
              unfold f_X6_errorPosition_j71 at h
              obtain ⟨t7, h8, h⟩ := q_b h
              refine r_cVv C hW (nA := 1) (As := [.int w71]) (rest := []) (c_X6_wants l g A b t2 w71 _ h8) gX6_errorPosition_X6_wants rfl ⟨rfl, wo_X6_wants⟩ (rmk hR rfl rfl) rfl rfl rfl rfl hl.1 (Nat.le_of_ble_eq_true rfl) rz dX6_errorPosition_71 (n := 7) (is := [0, 1, 2, 3, 4, 5, 6]) (rs := []) (bs' := [[(A b, .inr (6, [.ref (A (b + 1)), .ref (A (b + 2)), .int t7.2.2.1, .ref (A (b + 3)), .int t7.2.2.2.2.1, .ref (A (b + 4)), .int t7.2.2.2.2.2.2.1, .ref (A (b + 5)), .ref (A (b + 6)), .int t7.2.2.2.2.2.2.2.2.2.1, .int t7.2.2.2.2.2.2.2.2.2.2.1, .int t7.2.2.2.2.2.2.2.2.2.2.2]))], [(A (b + 1), .inl (gI g, 268, .inl t7.1))], [(A (b + 2), .inl (gI g, 1340, .inl t7.2.1))], [(A (b + 3), .inl (gI g, 268, .inl t7.2.2.2.1))], [(A (b + 4), .inl (gC g, 70, .inl t7.2.2.2.2.2.1))], [(A (b + 5), .inl (gI g, 3, .inl t7.2.2.2.2.2.2.2.1))], [(A (b + 6), .inl (gI g, 144, .inl t7.2.2.2.2.2.2.2.2.1))]]) rfl rfl pm_39 rfl rfl rfl (fun H locs hW => ?_)
              refine lv_aload_n hx hb dX6_errorPosition_74 rfl (lv_at hl 0 rfl) ?_
              refine r_get C hW (K := RX6) (T := TX6) (N := 12) (v := .int t7.2.2.2.2.2.2.2.2.2.2.2) 0 0 11 rfl rfl rfl inX6_errorPosition_X6 (by decide) (List.mem_of_getElem? (i := 3) rfl) rfl rfl dX6_errorPosition_75 ?_
              refine lv_bipush (v := (-6)) hx hb dX6_errorPosition_78 (by decide) ?_
              refine lv_icmp_ne (tgt := 87) hx hb dX6_errorPosition_80 (by decide) (fun e9 => ?_) (fun e9 => ?_)
              · replace h := q_f e9 h
                refine lv_iconst (v := 0) hx hb dX6_errorPosition_87 (by decide) ?_
                refine lv_istore_n (lv' := [(1, .int 0), (0, .ref (A b))]) hx hb dX6_errorPosition_88 rfl hl (by decide) rfl (fun ls hl => ?_)
                refine lv_goto (tgt := 18) hx hb dX6_errorPosition_89 (by decide) ?_
                exact ih18 (0, t7) h _ _ hW _ (lv_sub hl [1, 0] rfl)
              · replace h := q_t e9 h
                refine lv_iconst (v := 1) hx hb dX6_errorPosition_83 (by decide) ?_
                refine lv_goto (tgt := 88) hx hb dX6_errorPosition_84 (by decide) ?_
                refine lv_istore_n (lv' := [(1, .int 1), (0, .ref (A b))]) hx hb dX6_errorPosition_88 rfl hl (by decide) rfl (fun ls hl => ?_)
                refine lv_goto (tgt := 18) hx hb dX6_errorPosition_89 (by decide) ?_
                exact ih18 (1, t7) h _ _ hW _ (lv_sub hl [1, 0] rfl)
            refine lv_icmp_ne (tgt := 70) hx hb dX6_errorPosition_63 (by decide) (fun e10 => ?_) (fun e10 => ?_)
            · replace h := q_f e10 h
              refine lv_iconst (v := 0) hx hb dX6_errorPosition_70 (by decide) ?_
              exact J71 0 h _ _ hW _ (lv_sub hl [1] rfl)
            · replace h := q_t e10 h
              refine lv_iconst (v := 1) hx hb dX6_errorPosition_66 (by decide) ?_
              refine lv_goto (tgt := 71) hx hb dX6_errorPosition_67 (by decide) ?_
              exact J71 1 h _ _ hW _ (lv_sub hl [1] rfl)
        have J50 : ∀ (w50 : Unit), f_X6_errorPosition_j50 (lpN f_X6_errorPosition_l18 n18) t2 w50 = some (r, x') → ∀ (H : Heap) (locs : List Loc), WdG g Z s.heap H locs [[(A b, .inr (6, [.ref (A (b + 1)), .ref (A (b + 2)), .int t2.2.2.1, .ref (A (b + 3)), .int t2.2.2.2.2.1, .ref (A (b + 4)), .int t2.2.2.2.2.2.2.1, .ref (A (b + 5)), .ref (A (b + 6)), .int t2.2.2.2.2.2.2.2.2.2.1, .int t2.2.2.2.2.2.2.2.2.2.2.1, .int t2.2.2.2.2.2.2.2.2.2.2.2]))], [(A (b + 1), .inl (gI g, 268, .inl t2.1))], [(A (b + 2), .inl (gI g, 1340, .inl t2.2.1))], [(A (b + 3), .inl (gI g, 268, .inl t2.2.2.2.1))], [(A (b + 4), .inl (gC g, 70, .inl t2.2.2.2.2.2.1))], [(A (b + 5), .inl (gI g, 3, .inl t2.2.2.2.2.2.2.2.1))], [(A (b + 6), .inl (gI g, 144, .inl t2.2.2.2.2.2.2.2.2.1))]] → ∀ ls : Array Slot, lv_has ls 2 [(0, .ref (A b))] → W p l e R s m args below meth c H locs 0 0 Q (F0 m 50 ls []) := by
          intro w50 h H locs hW ls hl
          unfold f_X6_errorPosition_j50 at h
          refine lv_iconst (v := 0) hx hb dX6_errorPosition_50 (by decide) ?_
          exact J51 0 h _ _ hW _ (lv_sub hl [0] rfl)
        refine lv_icmp_ne (tgt := 50) hx hb dX6_errorPosition_32 (by decide) (fun e11 => ?_) (fun e11 => ?_)
        · replace h := q_f e11 h
          exact J50 () h _ _ hW _ (lv_sub hl [0] rfl)
        · replace h := q_t e11 h
          refine lv_aload_n hx hb dX6_errorPosition_35 rfl (lv_at hl 0 rfl) ?_
          refine r_get C hW (K := RX6) (T := TX6) (N := 12) (v := .int t2.2.2.2.2.2.2.2.2.2.2.1) 0 0 10 rfl rfl rfl inX6_errorPosition_X6 (by decide) (List.mem_of_getElem? (i := 2) rfl) rfl rfl dX6_errorPosition_36 ?_
          refine lv_aload_n hx hb dX6_errorPosition_39 rfl (lv_at hl 0 rfl) ?_
          refine r_get C hW (K := RX6) (T := TX6) (N := 12) (v := .int t2.2.2.2.2.2.2.1) 0 0 6 rfl rfl rfl inX6_errorPosition_X6 (by decide) (List.mem_of_getElem? (i := 4) rfl) rfl rfl dX6_errorPosition_40 ?_
          refine lv_icmp_ge (tgt := 50) hx hb dX6_errorPosition_43 (by decide) (fun e12 => ?_) (fun e12 => ?_)
          · replace h := q_t e12 h
            exact J50 () h _ _ hW _ (lv_sub hl [0] rfl)
          · replace h := q_f e12 h
            refine lv_iconst (v := 1) hx hb dX6_errorPosition_46 (by decide) ?_
            refine lv_goto (tgt := 51) hx hb dX6_errorPosition_47 (by decide) ?_
            exact J51 1 h _ _ hW _ (lv_sub hl [0] rfl)
  exact L18 3000 (1, (x.1, x.2.1, x.2.2.1, x.2.2.2.1, x.2.2.2.2.1, x.2.2.2.2.2.1, x.2.2.2.2.2.2.1, x.2.2.2.2.2.2.2.1, x.2.2.2.2.2.2.2.2.1, 0, 0, (-6))) h _ _ hW _ (lv_sub hl [1, 0] rfl)
