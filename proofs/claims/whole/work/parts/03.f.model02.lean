def f_X6_reason_j109 (x : TX6s) (p2 : Int32) (k57 : Int32 → Option (Int32)) (v57 : Int32) (w109 : Int32) : Option (Int32) :=
(f_X6_lineAt w109 p2).bind fun t13 =>
if t13 < 0 ∨ 268 ≤ (t13).toNatClampNeg then none else
if (x.1 (t13).toNatClampNeg) = 0 then (
some 2)
else (
if (x.1 (t13).toNatClampNeg) = 2 then (
some 2)
else (
k57 (v57 + 2)))
def f_X6_reason_l57 (x : TX6s) (p1 : Int32) (p2 : Int32) (p3 : Int32) (k57 : Int32 → Option (Int32)) (v57 : Int32) : Option (Int32) :=
if (p1 + 1) < v57 then (
some 0)
else (
(f_X6_in v57 0 2).bind fun t6 =>
if t6 = 0 then (
k57 (v57 + 2))
else (
if 2 ≤ p3 then (
k57 (v57 + 2))
else (
(f_X6_wayAt x v57 p2).bind fun t10 =>
if t10 = (1 - p3) then (
if p1 ≤ v57 then (
f_X6_reason_j109 x p2 k57 v57 p1)
else (
f_X6_reason_j109 x p2 k57 v57 v57))
else (
k57 (v57 + 2)))))
def f_X6_reason_j52 (x : TX6s) (p1 : Int32) (p2 : Int32) (p3 : Int32) (w52 : Unit) : Option (Int32) :=
lpN (f_X6_reason_l57 x p1 p2 p3) 3000 (p1 - 1)
def f_X6_reason_j34 (x : TX6s) (p1 : Int32) (p2 : Int32) (p3 : Int32) (t3 : Int32) (w34 : Unit) : Option (Int32) :=
if t3 = (-6) then (
f_X6_reason_j52 x p1 p2 p3 ())
else (
(f_X6_meets t3 p3).bind fun t20 =>
if t20 = 0 then (
f_X6_reason_j52 x p1 p2 p3 ())
else (
some 1))
def f_X6_reason (x : TX6s) (p1 : Int32) (p2 : Int32) (p3 : Int32) : Option (Int32) :=
(f_X6_nearest x p1 p2 1).bind fun t1 =>
(f_X6_nearest x p1 p2 (-1)).bind fun t3 =>
if t1 = (-6) then (
f_X6_reason_j34 x p1 p2 p3 t3 ())
else (
(f_X6_meets p3 t1).bind fun t24 =>
if t24 = 0 then (
f_X6_reason_j34 x p1 p2 p3 t3 ())
else (
some 1))
theorem wo_X6_reason : wordsOk yX6_reason 3 := by decide +kernel
theorem inX6_reason_X6 : ∀ w ∈ wsX60, w ∈ wsX6_reason := fun _ h => List.mem_cons_of_mem _ (List.mem_append_right _ h)
set_option maxHeartbeats 4000000 in
set_option maxRecDepth 100000 in
theorem c_X6_reason (l : Launch) (g : GG) (A : Nat → Nat) (b : Nat) (x : TX6s) (p1 : Int32) (p2 : Int32) (p3 : Int32) (r : Int32) (h : f_X6_reason x p1 p2 p3 = some r) : CI l yX6_reason wsX6_reason 3 69 g [.ref (A b), .int p1, .int p2, .int p3] (wX6 g A b x) r (wX6 g A b x) := by
  refine CI.mk (own := RX6) (by decide) rfl rfl (Nat.le_of_ble_eq_true rfl) ?_
  intro p e R s m args below meth c Z Q C E hR H hW ls hl
  have hx := C.1.1
  have hb := C.1.2.1
  have hown := C.1.2.2.2.1
  replace hW : WdG g Z s.heap H [] [[(A b, .inr (6, [.ref (A (b + 1)), .ref (A (b + 2)), .int x.2.2.1, .ref (A (b + 3)), .int x.2.2.2.2.1, .ref (A (b + 4)), .int x.2.2.2.2.2.2.1, .ref (A (b + 5)), .ref (A (b + 6)), .int x.2.2.2.2.2.2.2.2.2.1, .int x.2.2.2.2.2.2.2.2.2.2.1, .int x.2.2.2.2.2.2.2.2.2.2.2]))], [(A (b + 1), .inl (gI g, 268, .inl x.1))], [(A (b + 2), .inl (gI g, 1340, .inl x.2.1))], [(A (b + 3), .inl (gI g, 268, .inl x.2.2.2.1))], [(A (b + 4), .inl (gC g, 70, .inl x.2.2.2.2.2.1))], [(A (b + 5), .inl (gI g, 3, .inl x.2.2.2.2.2.2.2.1))], [(A (b + 6), .inl (gI g, 144, .inl x.2.2.2.2.2.2.2.2.1))]] := hW.re rfl
  replace hl : lv_has ls 8 [(0, .ref (A b)), (1, .int p1), (2, .int p2), (3, .int p3)] := hl
  unfold f_X6_reason at h
  refine lv_aload_n hx hb dX6_reason_0 rfl (lv_at hl 0 rfl) ?_
  refine lv_iload_n hx hb dX6_reason_1 rfl (lv_at hl 1 rfl) ?_
  refine lv_iload_n hx hb dX6_reason_2 rfl (lv_at hl 2 rfl) ?_
  refine lv_iconst (v := 1) hx hb dX6_reason_3 (by decide) ?_
  obtain ⟨t1, h2, h⟩ := q_b h
  refine r_cVi C hW (nA := 3) (As := [.int p1, .int p2, .int 1]) (rest := []) (c_X6_nearest l g A b x p1 p2 1 _ h2) gX6_reason_X6_nearest rfl ⟨rfl, wo_X6_nearest⟩ (rmk hR rfl rfl) rfl rfl rfl rfl hl.1 (Nat.le_of_ble_eq_true rfl) rz dX6_reason_4 (n := 7) (is := [0, 1, 2, 3, 4, 5, 6]) (rs := []) (bs' := [[(A b, .inr (6, [.ref (A (b + 1)), .ref (A (b + 2)), .int x.2.2.1, .ref (A (b + 3)), .int x.2.2.2.2.1, .ref (A (b + 4)), .int x.2.2.2.2.2.2.1, .ref (A (b + 5)), .ref (A (b + 6)), .int x.2.2.2.2.2.2.2.2.2.1, .int x.2.2.2.2.2.2.2.2.2.2.1, .int x.2.2.2.2.2.2.2.2.2.2.2]))], [(A (b + 1), .inl (gI g, 268, .inl x.1))], [(A (b + 2), .inl (gI g, 1340, .inl x.2.1))], [(A (b + 3), .inl (gI g, 268, .inl x.2.2.2.1))], [(A (b + 4), .inl (gC g, 70, .inl x.2.2.2.2.2.1))], [(A (b + 5), .inl (gI g, 3, .inl x.2.2.2.2.2.2.2.1))], [(A (b + 6), .inl (gI g, 144, .inl x.2.2.2.2.2.2.2.2.1))]]) rfl rfl pm_39 rfl rfl rfl (fun H locs hW => ?_)
  refine lv_istore (lv' := [(4, .int t1), (0, .ref (A b)), (1, .int p1), (2, .int p2), (3, .int p3)]) hx hb dX6_reason_7 hl (by decide) rfl (fun ls hl => ?_)
  refine lv_aload_n hx hb dX6_reason_9 rfl (lv_at hl 1 rfl) ?_
  refine lv_iload_n hx hb dX6_reason_10 rfl (lv_at hl 2 rfl) ?_
  refine lv_iload_n hx hb dX6_reason_11 rfl (lv_at hl 3 rfl) ?_
  refine lv_iconst (v := (-1)) hx hb dX6_reason_12 (by decide) ?_
  obtain ⟨t3, h4, h⟩ := q_b h
  refine r_cVi C hW (nA := 3) (As := [.int p1, .int p2, .int (-1)]) (rest := []) (c_X6_nearest l g A b x p1 p2 (-1) _ h4) gX6_reason_X6_nearest rfl ⟨rfl, wo_X6_nearest⟩ (rmk hR rfl rfl) rfl rfl rfl rfl hl.1 (Nat.le_of_ble_eq_true rfl) rz dX6_reason_13 (n := 7) (is := [0, 1, 2, 3, 4, 5, 6]) (rs := []) (bs' := [[(A b, .inr (6, [.ref (A (b + 1)), .ref (A (b + 2)), .int x.2.2.1, .ref (A (b + 3)), .int x.2.2.2.2.1, .ref (A (b + 4)), .int x.2.2.2.2.2.2.1, .ref (A (b + 5)), .ref (A (b + 6)), .int x.2.2.2.2.2.2.2.2.2.1, .int x.2.2.2.2.2.2.2.2.2.2.1, .int x.2.2.2.2.2.2.2.2.2.2.2]))], [(A (b + 1), .inl (gI g, 268, .inl x.1))], [(A (b + 2), .inl (gI g, 1340, .inl x.2.1))], [(A (b + 3), .inl (gI g, 268, .inl x.2.2.2.1))], [(A (b + 4), .inl (gC g, 70, .inl x.2.2.2.2.2.1))], [(A (b + 5), .inl (gI g, 3, .inl x.2.2.2.2.2.2.2.1))], [(A (b + 6), .inl (gI g, 144, .inl x.2.2.2.2.2.2.2.2.1))]]) rfl rfl pm_39 rfl rfl rfl (fun H locs hW => ?_)
  refine lv_istore (lv' := [(5, .int t3), (4, .int t1), (0, .ref (A b)), (1, .int p1), (2, .int p2), (3, .int p3)]) hx hb dX6_reason_16 hl (by decide) rfl (fun ls hl => ?_)
  refine lv_iload hx hb dX6_reason_18 (lv_at hl 1 rfl) ?_
  refine lv_bipush (v := (-6)) hx hb dX6_reason_20 (by decide) ?_
  have J34 : ∀ (w34 : Unit), f_X6_reason_j34 x p1 p2 p3 t3 w34 = some r → ∀ (H : Heap) (locs : List Loc), WdG g Z s.heap H locs [[(A b, .inr (6, [.ref (A (b + 1)), .ref (A (b + 2)), .int x.2.2.1, .ref (A (b + 3)), .int x.2.2.2.2.1, .ref (A (b + 4)), .int x.2.2.2.2.2.2.1, .ref (A (b + 5)), .ref (A (b + 6)), .int x.2.2.2.2.2.2.2.2.2.1, .int x.2.2.2.2.2.2.2.2.2.2.1, .int x.2.2.2.2.2.2.2.2.2.2.2]))], [(A (b + 1), .inl (gI g, 268, .inl x.1))], [(A (b + 2), .inl (gI g, 1340, .inl x.2.1))], [(A (b + 3), .inl (gI g, 268, .inl x.2.2.2.1))], [(A (b + 4), .inl (gC g, 70, .inl x.2.2.2.2.2.1))], [(A (b + 5), .inl (gI g, 3, .inl x.2.2.2.2.2.2.2.1))], [(A (b + 6), .inl (gI g, 144, .inl x.2.2.2.2.2.2.2.2.1))]] → ∀ ls : Array Slot, lv_has ls 8 [(0, .ref (A b)), (1, .int p1), (2, .int p2), (3, .int p3), (5, .int t3)] → W p l e R s m args below meth c H locs 0 0 Q (F0 m 34 ls []) := by
    intro w34 h H locs hW ls hl
    unfold f_X6_reason_j34 at h
    refine lv_iload hx hb dX6_reason_34 (lv_at hl 4 rfl) ?_
    refine lv_bipush (v := (-6)) hx hb dX6_reason_36 (by decide) ?_
    have J52 : ∀ (w52 : Unit), f_X6_reason_j52 x p1 p2 p3 w52 = some r → ∀ (H : Heap) (locs : List Loc), WdG g Z s.heap H locs [[(A b, .inr (6, [.ref (A (b + 1)), .ref (A (b + 2)), .int x.2.2.1, .ref (A (b + 3)), .int x.2.2.2.2.1, .ref (A (b + 4)), .int x.2.2.2.2.2.2.1, .ref (A (b + 5)), .ref (A (b + 6)), .int x.2.2.2.2.2.2.2.2.2.1, .int x.2.2.2.2.2.2.2.2.2.2.1, .int x.2.2.2.2.2.2.2.2.2.2.2]))], [(A (b + 1), .inl (gI g, 268, .inl x.1))], [(A (b + 2), .inl (gI g, 1340, .inl x.2.1))], [(A (b + 3), .inl (gI g, 268, .inl x.2.2.2.1))], [(A (b + 4), .inl (gC g, 70, .inl x.2.2.2.2.2.1))], [(A (b + 5), .inl (gI g, 3, .inl x.2.2.2.2.2.2.2.1))], [(A (b + 6), .inl (gI g, 144, .inl x.2.2.2.2.2.2.2.2.1))]] → ∀ ls : Array Slot, lv_has ls 8 [(0, .ref (A b)), (1, .int p1), (2, .int p2), (3, .int p3)] → W p l e R s m args below meth c H locs 0 0 Q (F0 m 52 ls []) := by
      intro w52 h H locs hW ls hl
      unfold f_X6_reason_j52 at h
      refine lv_iload_n hx hb dX6_reason_52 rfl (lv_at hl 1 rfl) ?_
      refine lv_iconst (v := 1) hx hb dX6_reason_53 (by decide) ?_
      refine lv_isub hx hb dX6_reason_54 ?_
      refine lv_istore (lv' := [(6, .int (p1 - 1)), (0, .ref (A b)), (1, .int p1), (2, .int p2), (3, .int p3)]) hx hb dX6_reason_55 hl (by decide) rfl (fun ls hl => ?_)
      have L57 : ∀ n57 : Nat, ∀ (v57 : Int32), lpN (f_X6_reason_l57 x p1 p2 p3) n57 v57 = some r → ∀ (H : Heap) (locs : List Loc), WdG g Z s.heap H locs [[(A b, .inr (6, [.ref (A (b + 1)), .ref (A (b + 2)), .int x.2.2.1, .ref (A (b + 3)), .int x.2.2.2.2.1, .ref (A (b + 4)), .int x.2.2.2.2.2.2.1, .ref (A (b + 5)), .ref (A (b + 6)), .int x.2.2.2.2.2.2.2.2.2.1, .int x.2.2.2.2.2.2.2.2.2.2.1, .int x.2.2.2.2.2.2.2.2.2.2.2]))], [(A (b + 1), .inl (gI g, 268, .inl x.1))], [(A (b + 2), .inl (gI g, 1340, .inl x.2.1))], [(A (b + 3), .inl (gI g, 268, .inl x.2.2.2.1))], [(A (b + 4), .inl (gC g, 70, .inl x.2.2.2.2.2.1))], [(A (b + 5), .inl (gI g, 3, .inl x.2.2.2.2.2.2.2.1))], [(A (b + 6), .inl (gI g, 144, .inl x.2.2.2.2.2.2.2.2.1))]] → ∀ ls : Array Slot, lv_has ls 8 [(0, .ref (A b)), (1, .int p1), (2, .int p2), (3, .int p3), (6, .int v57)] → W p l e R s m args below meth c H locs 0 0 Q (F0 m 57 ls []) := by
        intro n57
        induction n57 with
        | zero => intro v57 h; exact absurd (show none = some r from h) (fun h => by cases h)
        | succ n57 ih57 =>
          intro v57 h H locs hW ls hl
          replace h : f_X6_reason_l57 x p1 p2 p3 (lpN (f_X6_reason_l57 x p1 p2 p3) n57) v57 = some r := h
          unfold f_X6_reason_l57 at h
          refine lv_iload hx hb dX6_reason_57 (lv_at hl 4 rfl) ?_
          refine lv_iload_n hx hb dX6_reason_59 rfl (lv_at hl 1 rfl) ?_
          refine lv_iconst (v := 1) hx hb dX6_reason_60 (by decide) ?_
          refine lv_iadd hx hb dX6_reason_61 ?_
          refine lv_icmp_gt (tgt := 135) hx hb dX6_reason_62 (by decide) (fun e5 => ?_) (fun e5 => ?_)
          · replace h := q_t e5 h
            refine lv_iconst (v := 0) hx hb dX6_reason_135 (by decide) ?_
            cases h
            exact E _ _ _ _ _ hW rfl rfl dX6_reason_136
          · replace h := q_f e5 h
            refine lv_iload hx hb dX6_reason_65 (lv_at hl 4 rfl) ?_
            refine lv_iconst (v := 0) hx hb dX6_reason_67 (by decide) ?_
            refine lv_iconst (v := 2) hx hb dX6_reason_68 (by decide) ?_
            obtain ⟨t6, h7, h⟩ := q_b h
            refine r_cSi C hW (nA := 3) (As := [.int v57, .int 0, .int 2]) (rest := []) (c_X6_in l g v57 0 2 _ h7) gX6_reason_X6_in rfl wo_X6_in (rmk hR rfl rfl) rfl rfl hl.1 (Nat.le_of_ble_eq_true rfl) rz dX6_reason_69 (n := 7) (is := []) (rs := [0, 1, 2, 3, 4, 5, 6]) (bs' := [[(A b, .inr (6, [.ref (A (b + 1)), .ref (A (b + 2)), .int x.2.2.1, .ref (A (b + 3)), .int x.2.2.2.2.1, .ref (A (b + 4)), .int x.2.2.2.2.2.2.1, .ref (A (b + 5)), .ref (A (b + 6)), .int x.2.2.2.2.2.2.2.2.2.1, .int x.2.2.2.2.2.2.2.2.2.2.1, .int x.2.2.2.2.2.2.2.2.2.2.2]))], [(A (b + 1), .inl (gI g, 268, .inl x.1))], [(A (b + 2), .inl (gI g, 1340, .inl x.2.1))], [(A (b + 3), .inl (gI g, 268, .inl x.2.2.2.1))], [(A (b + 4), .inl (gC g, 70, .inl x.2.2.2.2.2.1))], [(A (b + 5), .inl (gI g, 3, .inl x.2.2.2.2.2.2.2.1))], [(A (b + 6), .inl (gI g, 144, .inl x.2.2.2.2.2.2.2.2.1))]]) rfl rfl pm_38 rfl rfl rfl (fun H locs hW => ?_)
            refine lv_if_eq (tgt := 129) hx hb dX6_reason_72 (by decide) (fun e8 => ?_) (fun e8 => ?_)
            · replace h := q_t e8 h
              refine lv_iinc (v := (v57 + 2)) (lv' := [(6, .int (v57 + 2)), (0, .ref (A b)), (1, .int p1), (2, .int p2), (3, .int p3)]) hx hb dX6_reason_129 hl (k := 4) rfl rfl (by decide) rfl (fun ls hl => ?_)
              refine lv_goto (tgt := 57) hx hb dX6_reason_132 (by decide) ?_
              exact ih57 (v57 + 2) h _ _ hW _ (lv_sub hl [1, 2, 3, 4, 0] rfl)
            · replace h := q_f e8 h
              refine lv_iload_n hx hb dX6_reason_75 rfl (lv_at hl 3 rfl) ?_
              refine lv_iconst (v := 2) hx hb dX6_reason_76 (by decide) ?_
              refine lv_icmp_ge (tgt := 129) hx hb dX6_reason_77 (by decide) (fun e9 => ?_) (fun e9 => ?_)
              · replace h := q_t e9 h
                refine lv_iinc (v := (v57 + 2)) (lv' := [(6, .int (v57 + 2)), (0, .ref (A b)), (1, .int p1), (2, .int p2), (3, .int p3)]) hx hb dX6_reason_129 hl (k := 4) rfl rfl (by decide) rfl (fun ls hl => ?_)
                refine lv_goto (tgt := 57) hx hb dX6_reason_132 (by decide) ?_
                exact ih57 (v57 + 2) h _ _ hW _ (lv_sub hl [1, 2, 3, 4, 0] rfl)
              · replace h := q_f e9 h
                refine lv_aload_n hx hb dX6_reason_80 rfl (lv_at hl 0 rfl) ?_
                refine lv_iload hx hb dX6_reason_81 (lv_at hl 4 rfl) ?_
                refine lv_iload_n hx hb dX6_reason_83 rfl (lv_at hl 2 rfl) ?_
                obtain ⟨t10, h11, h⟩ := q_b h
                refine r_cVi C hW (nA := 2) (As := [.int v57, .int p2]) (rest := []) (c_X6_wayAt l g A b x v57 p2 _ h11) gX6_reason_X6_wayAt rfl ⟨rfl, wo_X6_wayAt⟩ (rmk hR rfl rfl) rfl rfl rfl rfl hl.1 (Nat.le_of_ble_eq_true rfl) rz dX6_reason_84 (n := 7) (is := [0, 1, 2, 3, 4, 5, 6]) (rs := []) (bs' := [[(A b, .inr (6, [.ref (A (b + 1)), .ref (A (b + 2)), .int x.2.2.1, .ref (A (b + 3)), .int x.2.2.2.2.1, .ref (A (b + 4)), .int x.2.2.2.2.2.2.1, .ref (A (b + 5)), .ref (A (b + 6)), .int x.2.2.2.2.2.2.2.2.2.1, .int x.2.2.2.2.2.2.2.2.2.2.1, .int x.2.2.2.2.2.2.2.2.2.2.2]))], [(A (b + 1), .inl (gI g, 268, .inl x.1))], [(A (b + 2), .inl (gI g, 1340, .inl x.2.1))], [(A (b + 3), .inl (gI g, 268, .inl x.2.2.2.1))], [(A (b + 4), .inl (gC g, 70, .inl x.2.2.2.2.2.1))], [(A (b + 5), .inl (gI g, 3, .inl x.2.2.2.2.2.2.2.1))], [(A (b + 6), .inl (gI g, 144, .inl x.2.2.2.2.2.2.2.2.1))]]) rfl rfl pm_39 rfl rfl rfl (fun H locs hW => ?_)
                refine lv_iconst (v := 1) hx hb dX6_reason_87 (by decide) ?_
                refine lv_iload_n hx hb dX6_reason_88 rfl (lv_at hl 3 rfl) ?_
                refine lv_isub hx hb dX6_reason_89 ?_
                refine lv_icmp_ne (tgt := 129) hx hb dX6_reason_90 (by decide) (fun e12 => ?_) (fun e12 => ?_)
                · replace h := q_f e12 h
                  refine lv_iinc (v := (v57 + 2)) (lv' := [(6, .int (v57 + 2)), (0, .ref (A b)), (1, .int p1), (2, .int p2), (3, .int p3)]) hx hb dX6_reason_129 hl (k := 4) rfl rfl (by decide) rfl (fun ls hl => ?_)
                  refine lv_goto (tgt := 57) hx hb dX6_reason_132 (by decide) ?_
                  exact ih57 (v57 + 2) h _ _ hW _ (lv_sub hl [1, 2, 3, 4, 0] rfl)
                · replace h := q_t e12 h
                  refine lv_aload_n hx hb dX6_reason_93 rfl (lv_at hl 0 rfl) ?_
                  refine r_get C hW (K := RX6) (T := TX6) (N := 12) (v := .ref (A (b + 1))) 0 0 0 rfl rfl rfl inX6_reason_X6 (by decide) (List.mem_of_getElem? (i := 1) rfl) rfl rfl dX6_reason_94 ?_
                  refine lv_iload hx hb dX6_reason_97 (lv_at hl 4 rfl) ?_
                  refine lv_iload_n hx hb dX6_reason_99 rfl (lv_at hl 1 rfl) ?_
                  have J109 : ∀ (w109 : Int32), f_X6_reason_j109 x p2 (lpN (f_X6_reason_l57 x p1 p2 p3) n57) v57 w109 = some r → ∀ (H : Heap) (locs : List Loc), WdG g Z s.heap H locs [[(A b, .inr (6, [.ref (A (b + 1)), .ref (A (b + 2)), .int x.2.2.1, .ref (A (b + 3)), .int x.2.2.2.2.1, .ref (A (b + 4)), .int x.2.2.2.2.2.2.1, .ref (A (b + 5)), .ref (A (b + 6)), .int x.2.2.2.2.2.2.2.2.2.1, .int x.2.2.2.2.2.2.2.2.2.2.1, .int x.2.2.2.2.2.2.2.2.2.2.2]))], [(A (b + 1), .inl (gI g, 268, .inl x.1))], [(A (b + 2), .inl (gI g, 1340, .inl x.2.1))], [(A (b + 3), .inl (gI g, 268, .inl x.2.2.2.1))], [(A (b + 4), .inl (gC g, 70, .inl x.2.2.2.2.2.1))], [(A (b + 5), .inl (gI g, 3, .inl x.2.2.2.2.2.2.2.1))], [(A (b + 6), .inl (gI g, 144, .inl x.2.2.2.2.2.2.2.2.1))]] → ∀ ls : Array Slot, lv_has ls 8 [(0, .ref (A b)), (1, .int p1), (2, .int p2), (3, .int p3), (6, .int v57)] → W p l e R s m args below meth c H locs 0 0 Q (F0 m 109 ls [.int w109, .ref (A (b + 1))]) := by
                    intro w109 h H locs hW ls hl
                    unfold f_X6_reason_j109 at h
                    refine lv_iload_n hx hb dX6_reason_109 rfl (lv_at hl 2 rfl) ?_
                    obtain ⟨t13, h14, h⟩ := q_b h
                    refine r_cSi C hW (nA := 2) (As := [.int w109, .int p2]) (rest := [.ref (A (b + 1))]) (c_X6_lineAt l g w109 p2 _ h14) gX6_reason_X6_lineAt rfl wo_X6_lineAt (rmk hR rfl rfl) rfl rfl hl.1 (Nat.le_of_ble_eq_true rfl) rz dX6_reason_110 (n := 7) (is := []) (rs := [0, 1, 2, 3, 4, 5, 6]) (bs' := [[(A b, .inr (6, [.ref (A (b + 1)), .ref (A (b + 2)), .int x.2.2.1, .ref (A (b + 3)), .int x.2.2.2.2.1, .ref (A (b + 4)), .int x.2.2.2.2.2.2.1, .ref (A (b + 5)), .ref (A (b + 6)), .int x.2.2.2.2.2.2.2.2.2.1, .int x.2.2.2.2.2.2.2.2.2.2.1, .int x.2.2.2.2.2.2.2.2.2.2.2]))], [(A (b + 1), .inl (gI g, 268, .inl x.1))], [(A (b + 2), .inl (gI g, 1340, .inl x.2.1))], [(A (b + 3), .inl (gI g, 268, .inl x.2.2.2.1))], [(A (b + 4), .inl (gC g, 70, .inl x.2.2.2.2.2.1))], [(A (b + 5), .inl (gI g, 3, .inl x.2.2.2.2.2.2.2.1))], [(A (b + 6), .inl (gI g, 144, .inl x.2.2.2.2.2.2.2.2.1))]]) rfl rfl pm_38 rfl rfl rfl (fun H locs hW => ?_)
                    obtain ⟨g15, h⟩ := q_g h
                    refine r_iald C hW 1 0 rfl rfl g15 dX6_reason_113 ?_
                    refine lv_istore (lv' := [(7, .int (x.1 (t13).toNatClampNeg)), (0, .ref (A b)), (1, .int p1), (2, .int p2), (3, .int p3), (6, .int v57)]) hx hb dX6_reason_114 hl (by decide) rfl (fun ls hl => ?_)
                    refine lv_iload hx hb dX6_reason_116 (lv_at hl 0 rfl) ?_
                    refine lv_if_eq (tgt := 127) hx hb dX6_reason_118 (by decide) (fun e16 => ?_) (fun e16 => ?_)
                    · replace h := q_t e16 h
                      refine lv_iconst (v := 2) hx hb dX6_reason_127 (by decide) ?_
                      cases h
                      exact E _ _ _ _ _ hW rfl rfl dX6_reason_128
                    · replace h := q_f e16 h
                      refine lv_iload hx hb dX6_reason_121 (lv_at hl 0 rfl) ?_
                      refine lv_iconst (v := 2) hx hb dX6_reason_123 (by decide) ?_
                      refine lv_icmp_ne (tgt := 129) hx hb dX6_reason_124 (by decide) (fun e17 => ?_) (fun e17 => ?_)
                      · replace h := q_f e17 h
                        refine lv_iinc (v := (v57 + 2)) (lv' := [(6, .int (v57 + 2)), (7, .int (x.1 (t13).toNatClampNeg)), (0, .ref (A b)), (1, .int p1), (2, .int p2), (3, .int p3)]) hx hb dX6_reason_129 hl (k := 5) rfl rfl (by decide) rfl (fun ls hl => ?_)
                        refine lv_goto (tgt := 57) hx hb dX6_reason_132 (by decide) ?_
                        exact ih57 (v57 + 2) h _ _ hW _ (lv_sub hl [2, 3, 4, 5, 0] rfl)
                      · replace h := q_t e17 h
                        refine lv_iconst (v := 2) hx hb dX6_reason_127 (by decide) ?_
                        cases h
                        exact E _ _ _ _ _ hW rfl rfl dX6_reason_128
                  refine lv_icmp_ge (tgt := 108) hx hb dX6_reason_100 (by decide) (fun e18 => ?_) (fun e18 => ?_)
                  · replace h := q_t e18 h
                    refine lv_iload_n hx hb dX6_reason_108 rfl (lv_at hl 1 rfl) ?_
                    exact J109 p1 h _ _ hW _ (lv_sub hl [0, 1, 2, 3, 4] rfl)
                  · replace h := q_f e18 h
                    refine lv_iload hx hb dX6_reason_103 (lv_at hl 4 rfl) ?_
                    refine lv_goto (tgt := 109) hx hb dX6_reason_105 (by decide) ?_
                    exact J109 v57 h _ _ hW _ (lv_sub hl [0, 1, 2, 3, 4] rfl)
      exact L57 3000 (p1 - 1) h _ _ hW _ (lv_sub hl [1, 2, 3, 4, 0] rfl)
    refine lv_icmp_eq (tgt := 52) hx hb dX6_reason_38 (by decide) (fun e19 => ?_) (fun e19 => ?_)
    · replace h := q_t e19 h
      exact J52 () h _ _ hW _ (lv_sub hl [0, 1, 2, 3] rfl)
    · replace h := q_f e19 h
      refine lv_iload hx hb dX6_reason_41 (lv_at hl 4 rfl) ?_
      refine lv_iload_n hx hb dX6_reason_43 rfl (lv_at hl 3 rfl) ?_
      obtain ⟨t20, h21, h⟩ := q_b h
      refine r_cSi C hW (nA := 2) (As := [.int t3, .int p3]) (rest := []) (c_X6_meets l g t3 p3 _ h21) gX6_reason_X6_meets rfl wo_X6_meets (rmk hR rfl rfl) rfl rfl hl.1 (Nat.le_of_ble_eq_true rfl) rz dX6_reason_44 (n := 7) (is := []) (rs := [0, 1, 2, 3, 4, 5, 6]) (bs' := [[(A b, .inr (6, [.ref (A (b + 1)), .ref (A (b + 2)), .int x.2.2.1, .ref (A (b + 3)), .int x.2.2.2.2.1, .ref (A (b + 4)), .int x.2.2.2.2.2.2.1, .ref (A (b + 5)), .ref (A (b + 6)), .int x.2.2.2.2.2.2.2.2.2.1, .int x.2.2.2.2.2.2.2.2.2.2.1, .int x.2.2.2.2.2.2.2.2.2.2.2]))], [(A (b + 1), .inl (gI g, 268, .inl x.1))], [(A (b + 2), .inl (gI g, 1340, .inl x.2.1))], [(A (b + 3), .inl (gI g, 268, .inl x.2.2.2.1))], [(A (b + 4), .inl (gC g, 70, .inl x.2.2.2.2.2.1))], [(A (b + 5), .inl (gI g, 3, .inl x.2.2.2.2.2.2.2.1))], [(A (b + 6), .inl (gI g, 144, .inl x.2.2.2.2.2.2.2.2.1))]]) rfl rfl pm_38 rfl rfl rfl (fun H locs hW => ?_)
      refine lv_if_eq (tgt := 52) hx hb dX6_reason_47 (by decide) (fun e22 => ?_) (fun e22 => ?_)
      · replace h := q_t e22 h
        exact J52 () h _ _ hW _ (lv_sub hl [0, 1, 2, 3] rfl)
      · replace h := q_f e22 h
        refine lv_iconst (v := 1) hx hb dX6_reason_50 (by decide) ?_
        cases h
        exact E _ _ _ _ _ hW rfl rfl dX6_reason_51
  refine lv_icmp_eq (tgt := 34) hx hb dX6_reason_22 (by decide) (fun e23 => ?_) (fun e23 => ?_)
  · replace h := q_t e23 h
    exact J34 () h _ _ hW _ (lv_sub hl [2, 3, 4, 5, 0] rfl)
  · replace h := q_f e23 h
    refine lv_iload_n hx hb dX6_reason_25 rfl (lv_at hl 5 rfl) ?_
    refine lv_iload hx hb dX6_reason_26 (lv_at hl 1 rfl) ?_
    obtain ⟨t24, h25, h⟩ := q_b h
    refine r_cSi C hW (nA := 2) (As := [.int p3, .int t1]) (rest := []) (c_X6_meets l g p3 t1 _ h25) gX6_reason_X6_meets rfl wo_X6_meets (rmk hR rfl rfl) rfl rfl hl.1 (Nat.le_of_ble_eq_true rfl) rz dX6_reason_28 (n := 7) (is := []) (rs := [0, 1, 2, 3, 4, 5, 6]) (bs' := [[(A b, .inr (6, [.ref (A (b + 1)), .ref (A (b + 2)), .int x.2.2.1, .ref (A (b + 3)), .int x.2.2.2.2.1, .ref (A (b + 4)), .int x.2.2.2.2.2.2.1, .ref (A (b + 5)), .ref (A (b + 6)), .int x.2.2.2.2.2.2.2.2.2.1, .int x.2.2.2.2.2.2.2.2.2.2.1, .int x.2.2.2.2.2.2.2.2.2.2.2]))], [(A (b + 1), .inl (gI g, 268, .inl x.1))], [(A (b + 2), .inl (gI g, 1340, .inl x.2.1))], [(A (b + 3), .inl (gI g, 268, .inl x.2.2.2.1))], [(A (b + 4), .inl (gC g, 70, .inl x.2.2.2.2.2.1))], [(A (b + 5), .inl (gI g, 3, .inl x.2.2.2.2.2.2.2.1))], [(A (b + 6), .inl (gI g, 144, .inl x.2.2.2.2.2.2.2.2.1))]]) rfl rfl pm_38 rfl rfl rfl (fun H locs hW => ?_)
    refine lv_if_ne (tgt := 50) hx hb dX6_reason_31 (by decide) (fun e26 => ?_) (fun e26 => ?_)
    · replace h := q_f e26 h
      refine lv_iconst (v := 1) hx hb dX6_reason_50 (by decide) ?_
      cases h
      exact E _ _ _ _ _ hW rfl rfl dX6_reason_51
    · replace h := q_t e26 h
      exact J34 () h _ _ hW _ (lv_sub hl [2, 3, 4, 5, 0] rfl)
def f_X6_cellSigns_l7 (x : TX6s) (k7 : (Int32 × Int32) → Option (Int32)) (v7 : Int32 × Int32) : Option (Int32) :=
if 204 ≤ v7.2 then (
some v7.1)
else (
if v7.2 < 0 ∨ 268 ≤ (v7.2).toNatClampNeg then none else
if (x.1 (v7.2).toNatClampNeg) ≤ 0 then (
k7 ((v7.1 + 0), (v7.2 + 4)))
else (
k7 ((v7.1 + 1), (v7.2 + 4))))
def f_X6_cellSigns (x : TX6s) (p1 : Int32) : Option (Int32) :=
lpN (f_X6_cellSigns_l7 x) 3000 (0, (12 + p1))
theorem wo_X6_cellSigns : wordsOk yX6_cellSigns 1 := by decide +kernel
theorem inX6_cellSigns_X6 : ∀ w ∈ wsX60, w ∈ wsX6_cellSigns := fun _ h => List.mem_cons_of_mem _ (List.mem_append_right _ h)
set_option maxHeartbeats 4000000 in
set_option maxRecDepth 100000 in
theorem c_X6_cellSigns (l : Launch) (g : GG) (A : Nat → Nat) (b : Nat) (x : TX6s) (p1 : Int32) (r : Int32) (h : f_X6_cellSigns x p1 = some r) : CI l yX6_cellSigns wsX6_cellSigns 0 0 g [.ref (A b), .int p1] (wX6 g A b x) r (wX6 g A b x) := by
  refine CI.mk (own := RX6) (by decide) rfl rfl (Nat.le_of_ble_eq_true rfl) ?_
  intro p e R s m args below meth c Z Q C E hR H hW ls hl
  have hx := C.1.1
  have hb := C.1.2.1
  have hown := C.1.2.2.2.1
  replace hW : WdG g Z s.heap H [] [[(A b, .inr (6, [.ref (A (b + 1)), .ref (A (b + 2)), .int x.2.2.1, .ref (A (b + 3)), .int x.2.2.2.2.1, .ref (A (b + 4)), .int x.2.2.2.2.2.2.1, .ref (A (b + 5)), .ref (A (b + 6)), .int x.2.2.2.2.2.2.2.2.2.1, .int x.2.2.2.2.2.2.2.2.2.2.1, .int x.2.2.2.2.2.2.2.2.2.2.2]))], [(A (b + 1), .inl (gI g, 268, .inl x.1))], [(A (b + 2), .inl (gI g, 1340, .inl x.2.1))], [(A (b + 3), .inl (gI g, 268, .inl x.2.2.2.1))], [(A (b + 4), .inl (gC g, 70, .inl x.2.2.2.2.2.1))], [(A (b + 5), .inl (gI g, 3, .inl x.2.2.2.2.2.2.2.1))], [(A (b + 6), .inl (gI g, 144, .inl x.2.2.2.2.2.2.2.2.1))]] := hW.re rfl
  replace hl : lv_has ls 4 [(0, .ref (A b)), (1, .int p1)] := hl
  unfold f_X6_cellSigns at h
  refine lv_iconst (v := 0) hx hb dX6_cellSigns_0 (by decide) ?_
  refine lv_istore_n (lv' := [(2, .int 0), (0, .ref (A b)), (1, .int p1)]) hx hb dX6_cellSigns_1 rfl hl (by decide) rfl (fun ls hl => ?_)
  refine lv_bipush (v := 12) hx hb dX6_cellSigns_2 (by decide) ?_
  refine lv_iload_n hx hb dX6_cellSigns_4 rfl (lv_at hl 2 rfl) ?_
  refine lv_iadd hx hb dX6_cellSigns_5 ?_
  refine lv_istore_n (lv' := [(3, .int (12 + p1)), (2, .int 0), (0, .ref (A b)), (1, .int p1)]) hx hb dX6_cellSigns_6 rfl hl (by decide) rfl (fun ls hl => ?_)
  have L7 : ∀ n7 : Nat, ∀ (v7 : Int32 × Int32), lpN (f_X6_cellSigns_l7 x) n7 v7 = some r → ∀ (H : Heap) (locs : List Loc), WdG g Z s.heap H locs [[(A b, .inr (6, [.ref (A (b + 1)), .ref (A (b + 2)), .int x.2.2.1, .ref (A (b + 3)), .int x.2.2.2.2.1, .ref (A (b + 4)), .int x.2.2.2.2.2.2.1, .ref (A (b + 5)), .ref (A (b + 6)), .int x.2.2.2.2.2.2.2.2.2.1, .int x.2.2.2.2.2.2.2.2.2.2.1, .int x.2.2.2.2.2.2.2.2.2.2.2]))], [(A (b + 1), .inl (gI g, 268, .inl x.1))], [(A (b + 2), .inl (gI g, 1340, .inl x.2.1))], [(A (b + 3), .inl (gI g, 268, .inl x.2.2.2.1))], [(A (b + 4), .inl (gC g, 70, .inl x.2.2.2.2.2.1))], [(A (b + 5), .inl (gI g, 3, .inl x.2.2.2.2.2.2.2.1))], [(A (b + 6), .inl (gI g, 144, .inl x.2.2.2.2.2.2.2.2.1))]] → ∀ ls : Array Slot, lv_has ls 4 [(0, .ref (A b)), (2, .int v7.1), (3, .int v7.2)] → W p l e R s m args below meth c H locs 0 0 Q (F0 m 7 ls []) := by
    intro n7
    induction n7 with
    | zero => intro v7 h; exact absurd (show none = some r from h) (fun h => by cases h)
    | succ n7 ih7 =>
      intro v7 h H locs hW ls hl
      replace h : f_X6_cellSigns_l7 x (lpN (f_X6_cellSigns_l7 x) n7) v7 = some r := h
      unfold f_X6_cellSigns_l7 at h
      refine lv_iload_n hx hb dX6_cellSigns_7 rfl (lv_at hl 2 rfl) ?_
      refine lv_sipush (v := 204) hx hb dX6_cellSigns_8 (by decide) ?_
      refine lv_icmp_ge (tgt := 37) hx hb dX6_cellSigns_11 (by decide) (fun e1 => ?_) (fun e1 => ?_)
      · replace h := q_t e1 h
        refine lv_iload_n hx hb dX6_cellSigns_37 rfl (lv_at hl 1 rfl) ?_
        cases h
        exact E _ _ _ _ _ hW rfl rfl dX6_cellSigns_38
      · replace h := q_f e1 h
        refine lv_iload_n hx hb dX6_cellSigns_14 rfl (lv_at hl 1 rfl) ?_
        refine lv_aload_n hx hb dX6_cellSigns_15 rfl (lv_at hl 0 rfl) ?_
        refine r_get C hW (K := RX6) (T := TX6) (N := 12) (v := .ref (A (b + 1))) 0 0 0 rfl rfl rfl inX6_cellSigns_X6 (by decide) (List.mem_of_getElem? (i := 1) rfl) rfl rfl dX6_cellSigns_16 ?_
        refine lv_iload_n hx hb dX6_cellSigns_19 rfl (lv_at hl 2 rfl) ?_
        obtain ⟨g2, h⟩ := q_g h
        refine r_iald C hW 1 0 rfl rfl g2 dX6_cellSigns_20 ?_
        refine lv_if_le (tgt := 28) hx hb dX6_cellSigns_21 (by decide) (fun e3 => ?_) (fun e3 => ?_)
        · replace h := q_t e3 h
          refine lv_iconst (v := 0) hx hb dX6_cellSigns_28 (by decide) ?_
          refine lv_iadd hx hb dX6_cellSigns_29 ?_
          refine lv_istore_n (lv' := [(2, .int (v7.1 + 0)), (0, .ref (A b)), (3, .int v7.2)]) hx hb dX6_cellSigns_30 rfl hl (by decide) rfl (fun ls hl => ?_)
          refine lv_iinc (v := (v7.2 + 4)) (lv' := [(3, .int (v7.2 + 4)), (2, .int (v7.1 + 0)), (0, .ref (A b))]) hx hb dX6_cellSigns_31 hl (k := 2) rfl rfl (by decide) rfl (fun ls hl => ?_)
          refine lv_goto (tgt := 7) hx hb dX6_cellSigns_34 (by decide) ?_
          exact ih7 ((v7.1 + 0), (v7.2 + 4)) h _ _ hW _ (lv_sub hl [2, 1, 0] rfl)
        · replace h := q_f e3 h
          refine lv_iconst (v := 1) hx hb dX6_cellSigns_24 (by decide) ?_
          refine lv_goto (tgt := 29) hx hb dX6_cellSigns_25 (by decide) ?_
          refine lv_iadd hx hb dX6_cellSigns_29 ?_
          refine lv_istore_n (lv' := [(2, .int (v7.1 + 1)), (0, .ref (A b)), (3, .int v7.2)]) hx hb dX6_cellSigns_30 rfl hl (by decide) rfl (fun ls hl => ?_)
          refine lv_iinc (v := (v7.2 + 4)) (lv' := [(3, .int (v7.2 + 4)), (2, .int (v7.1 + 1)), (0, .ref (A b))]) hx hb dX6_cellSigns_31 hl (k := 2) rfl rfl (by decide) rfl (fun ls hl => ?_)
          refine lv_goto (tgt := 7) hx hb dX6_cellSigns_34 (by decide) ?_
          exact ih7 ((v7.1 + 1), (v7.2 + 4)) h _ _ hW _ (lv_sub hl [2, 1, 0] rfl)
  exact L7 3000 (0, (12 + p1)) h _ _ hW _ (lv_sub hl [2, 1, 0] rfl)
def f_X6_whyNotArrow (x : TX6s) (p1 : Int32) (p2 : Int32) (p3 : Int32) : Option (Int32) :=
(f_X6_isCell p1 p2).bind fun t1 =>
if t1 = 0 then (
some (-1))
else (
(f_X6_in p3 0 2).bind fun t4 =>
if t4 = 0 then (
some (-2))
else (
(f_X6_reason x p1 p2 p3).bind fun t7 =>
if t7 ≤ 0 then (
some 0)
else (
some (-3))))
theorem wo_X6_whyNotArrow : wordsOk yX6_whyNotArrow 3 := by decide +kernel
set_option maxHeartbeats 4000000 in
set_option maxRecDepth 100000 in
theorem c_X6_whyNotArrow (l : Launch) (g : GG) (A : Nat → Nat) (b : Nat) (x : TX6s) (p1 : Int32) (p2 : Int32) (p3 : Int32) (r : Int32) (h : f_X6_whyNotArrow x p1 p2 p3 = some r) : CI l yX6_whyNotArrow wsX6_whyNotArrow 4 96 g [.ref (A b), .int p1, .int p2, .int p3] (wX6 g A b x) r (wX6 g A b x) := by
  refine CI.mk (own := RX6) (by decide) rfl rfl (Nat.le_of_ble_eq_true rfl) ?_
  intro p e R s m args below meth c Z Q C E hR H hW ls hl
  have hx := C.1.1
  have hb := C.1.2.1
  have hown := C.1.2.2.2.1
  replace hW : WdG g Z s.heap H [] [[(A b, .inr (6, [.ref (A (b + 1)), .ref (A (b + 2)), .int x.2.2.1, .ref (A (b + 3)), .int x.2.2.2.2.1, .ref (A (b + 4)), .int x.2.2.2.2.2.2.1, .ref (A (b + 5)), .ref (A (b + 6)), .int x.2.2.2.2.2.2.2.2.2.1, .int x.2.2.2.2.2.2.2.2.2.2.1, .int x.2.2.2.2.2.2.2.2.2.2.2]))], [(A (b + 1), .inl (gI g, 268, .inl x.1))], [(A (b + 2), .inl (gI g, 1340, .inl x.2.1))], [(A (b + 3), .inl (gI g, 268, .inl x.2.2.2.1))], [(A (b + 4), .inl (gC g, 70, .inl x.2.2.2.2.2.1))], [(A (b + 5), .inl (gI g, 3, .inl x.2.2.2.2.2.2.2.1))], [(A (b + 6), .inl (gI g, 144, .inl x.2.2.2.2.2.2.2.2.1))]] := hW.re rfl
  replace hl : lv_has ls 4 [(0, .ref (A b)), (1, .int p1), (2, .int p2), (3, .int p3)] := hl
  unfold f_X6_whyNotArrow at h
  refine lv_iload_n hx hb dX6_whyNotArrow_0 rfl (lv_at hl 1 rfl) ?_
  refine lv_iload_n hx hb dX6_whyNotArrow_1 rfl (lv_at hl 2 rfl) ?_
  obtain ⟨t1, h2, h⟩ := q_b h
  refine r_cSi C hW (nA := 2) (As := [.int p1, .int p2]) (rest := []) (c_X6_isCell l g p1 p2 _ h2) gX6_whyNotArrow_X6_isCell rfl wo_X6_isCell (rmk hR rfl rfl) rfl rfl hl.1 (Nat.le_of_ble_eq_true rfl) rz dX6_whyNotArrow_2 (n := 7) (is := []) (rs := [0, 1, 2, 3, 4, 5, 6]) (bs' := [[(A b, .inr (6, [.ref (A (b + 1)), .ref (A (b + 2)), .int x.2.2.1, .ref (A (b + 3)), .int x.2.2.2.2.1, .ref (A (b + 4)), .int x.2.2.2.2.2.2.1, .ref (A (b + 5)), .ref (A (b + 6)), .int x.2.2.2.2.2.2.2.2.2.1, .int x.2.2.2.2.2.2.2.2.2.2.1, .int x.2.2.2.2.2.2.2.2.2.2.2]))], [(A (b + 1), .inl (gI g, 268, .inl x.1))], [(A (b + 2), .inl (gI g, 1340, .inl x.2.1))], [(A (b + 3), .inl (gI g, 268, .inl x.2.2.2.1))], [(A (b + 4), .inl (gC g, 70, .inl x.2.2.2.2.2.1))], [(A (b + 5), .inl (gI g, 3, .inl x.2.2.2.2.2.2.2.1))], [(A (b + 6), .inl (gI g, 144, .inl x.2.2.2.2.2.2.2.2.1))]]) rfl rfl pm_38 rfl rfl rfl (fun H locs hW => ?_)
  refine lv_if_ne (tgt := 12) hx hb dX6_whyNotArrow_5 (by decide) (fun e3 => ?_) (fun e3 => ?_)
  · replace h := q_f e3 h
    refine lv_iload_n hx hb dX6_whyNotArrow_12 rfl (lv_at hl 3 rfl) ?_
    refine lv_iconst (v := 0) hx hb dX6_whyNotArrow_13 (by decide) ?_
    refine lv_iconst (v := 2) hx hb dX6_whyNotArrow_14 (by decide) ?_
    obtain ⟨t4, h5, h⟩ := q_b h
    refine r_cSi C hW (nA := 3) (As := [.int p3, .int 0, .int 2]) (rest := []) (c_X6_in l g p3 0 2 _ h5) gX6_whyNotArrow_X6_in rfl wo_X6_in (rmk hR rfl rfl) rfl rfl hl.1 (Nat.le_of_ble_eq_true rfl) rz dX6_whyNotArrow_15 (n := 7) (is := []) (rs := [0, 1, 2, 3, 4, 5, 6]) (bs' := [[(A b, .inr (6, [.ref (A (b + 1)), .ref (A (b + 2)), .int x.2.2.1, .ref (A (b + 3)), .int x.2.2.2.2.1, .ref (A (b + 4)), .int x.2.2.2.2.2.2.1, .ref (A (b + 5)), .ref (A (b + 6)), .int x.2.2.2.2.2.2.2.2.2.1, .int x.2.2.2.2.2.2.2.2.2.2.1, .int x.2.2.2.2.2.2.2.2.2.2.2]))], [(A (b + 1), .inl (gI g, 268, .inl x.1))], [(A (b + 2), .inl (gI g, 1340, .inl x.2.1))], [(A (b + 3), .inl (gI g, 268, .inl x.2.2.2.1))], [(A (b + 4), .inl (gC g, 70, .inl x.2.2.2.2.2.1))], [(A (b + 5), .inl (gI g, 3, .inl x.2.2.2.2.2.2.2.1))], [(A (b + 6), .inl (gI g, 144, .inl x.2.2.2.2.2.2.2.2.1))]]) rfl rfl pm_38 rfl rfl rfl (fun H locs hW => ?_)
    refine lv_if_ne (tgt := 26) hx hb dX6_whyNotArrow_18 (by decide) (fun e6 => ?_) (fun e6 => ?_)
    · replace h := q_f e6 h
      refine lv_aload_n hx hb dX6_whyNotArrow_26 rfl (lv_at hl 0 rfl) ?_
      refine lv_iload_n hx hb dX6_whyNotArrow_27 rfl (lv_at hl 1 rfl) ?_
      refine lv_iload_n hx hb dX6_whyNotArrow_28 rfl (lv_at hl 2 rfl) ?_
      refine lv_iload_n hx hb dX6_whyNotArrow_29 rfl (lv_at hl 3 rfl) ?_
      obtain ⟨t7, h8, h⟩ := q_b h
      refine r_cVi C hW (nA := 3) (As := [.int p1, .int p2, .int p3]) (rest := []) (c_X6_reason l g A b x p1 p2 p3 _ h8) gX6_whyNotArrow_X6_reason rfl ⟨rfl, wo_X6_reason⟩ (rmk hR rfl rfl) rfl rfl rfl rfl hl.1 (Nat.le_of_ble_eq_true rfl) rz dX6_whyNotArrow_30 (n := 7) (is := [0, 1, 2, 3, 4, 5, 6]) (rs := []) (bs' := [[(A b, .inr (6, [.ref (A (b + 1)), .ref (A (b + 2)), .int x.2.2.1, .ref (A (b + 3)), .int x.2.2.2.2.1, .ref (A (b + 4)), .int x.2.2.2.2.2.2.1, .ref (A (b + 5)), .ref (A (b + 6)), .int x.2.2.2.2.2.2.2.2.2.1, .int x.2.2.2.2.2.2.2.2.2.2.1, .int x.2.2.2.2.2.2.2.2.2.2.2]))], [(A (b + 1), .inl (gI g, 268, .inl x.1))], [(A (b + 2), .inl (gI g, 1340, .inl x.2.1))], [(A (b + 3), .inl (gI g, 268, .inl x.2.2.2.1))], [(A (b + 4), .inl (gC g, 70, .inl x.2.2.2.2.2.1))], [(A (b + 5), .inl (gI g, 3, .inl x.2.2.2.2.2.2.2.1))], [(A (b + 6), .inl (gI g, 144, .inl x.2.2.2.2.2.2.2.2.1))]]) rfl rfl pm_39 rfl rfl rfl (fun H locs hW => ?_)
      refine lv_if_le (tgt := 41) hx hb dX6_whyNotArrow_33 (by decide) (fun e9 => ?_) (fun e9 => ?_)
      · replace h := q_t e9 h
        refine lv_iconst (v := 0) hx hb dX6_whyNotArrow_41 (by decide) ?_
        cases h
        exact E _ _ _ _ _ hW rfl rfl dX6_whyNotArrow_42
      · replace h := q_f e9 h
        refine lv_bipush (v := (-3)) hx hb dX6_whyNotArrow_36 (by decide) ?_
        refine lv_goto (tgt := 42) hx hb dX6_whyNotArrow_38 (by decide) ?_
        cases h
        exact E _ _ _ _ _ hW rfl rfl dX6_whyNotArrow_42
    · replace h := q_t e6 h
      refine lv_bipush (v := (-2)) hx hb dX6_whyNotArrow_21 (by decide) ?_
      refine lv_goto (tgt := 42) hx hb dX6_whyNotArrow_23 (by decide) ?_
      cases h
      exact E _ _ _ _ _ hW rfl rfl dX6_whyNotArrow_42
  · replace h := q_t e3 h
    refine lv_iconst (v := (-1)) hx hb dX6_whyNotArrow_8 (by decide) ?_
    refine lv_goto (tgt := 42) hx hb dX6_whyNotArrow_9 (by decide) ?_
    cases h
    exact E _ _ _ _ _ hW rfl rfl dX6_whyNotArrow_42
