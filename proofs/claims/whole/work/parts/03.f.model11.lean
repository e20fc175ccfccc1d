def f_X6_readableFor_j79 (v43 : Int32 × Int32) (w79 : Unit) : Option (Int32) :=
if v43.2 ≤ 300 then (
some v43.2)
else (
some (-6))
def f_X6_readableFor_l43 (x : TX6s) (p1 : Int32) (p2 : Int32) (k43 : (Int32 × Int32) → Option (Int32)) (v43 : Int32 × Int32) : Option (Int32) :=
if 300 < v43.2 then (
f_X6_readableFor_j79 v43 ())
else (
if (0 : Int32) < 0 ∨ 268 ≤ (0 : Int32).toNatClampNeg then none else
if v43.1 < (x.1 (0 : Int32).toNatClampNeg) then (
f_X6_readableFor_j79 v43 ())
else (
(f_X6_lossOf x p1 p2).bind fun t13 =>
k43 ((v43.1 - t13), (v43.2 + 1))))
def f_X6_readableFor (x : TX6s) (p1 : Int32) (p2 : Int32) : Option (Int32) :=
(f_X6_isCell p1 p2).bind fun t1 =>
if t1 = 0 then (
some (-1))
else (
(f_X6_cellAt p1 p2).bind fun t4 =>
if (t4 + 2) < 0 ∨ 268 ≤ (t4 + 2).toNatClampNeg then none else
if (x.1 (t4 + 2).toNatClampNeg) = 0 then (
some (-6))
else (
if (t4 + 3) < 0 ∨ 268 ≤ (t4 + 3).toNatClampNeg then none else
lpN (f_X6_readableFor_l43 x p1 p2) 3000 ((x.1 (t4 + 3).toNatClampNeg), 0)))
theorem wo_X6_readableFor : wordsOk yX6_readableFor 2 := by decide +kernel
theorem inX6_readableFor_X6 : ∀ w ∈ wsX60, w ∈ wsX6_readableFor := fun _ h => List.mem_cons_of_mem _ (List.mem_append_right _ h)
set_option maxHeartbeats 4000000 in
set_option maxRecDepth 100000 in
theorem c_X6_readableFor (l : Launch) (g : GG) (A : Nat → Nat) (b : Nat) (x : TX6s) (p1 : Int32) (p2 : Int32) (r : Int32) (h : f_X6_readableFor x p1 p2 = some r) : CI l yX6_readableFor wsX6_readableFor 3 68 g [.ref (A b), .int p1, .int p2] (wX6 g A b x) r (wX6 g A b x) := by
  refine CI.mk (own := RX6) (by decide) rfl rfl (Nat.le_of_ble_eq_true rfl) ?_
  intro p e R s m args below meth c Z Q C E hR H hW ls hl
  have hx := C.1.1
  have hb := C.1.2.1
  have hown := C.1.2.2.2.1
  replace hW : WdG g Z s.heap H [] [[(A b, .inr (6, [.ref (A (b + 1)), .ref (A (b + 2)), .int x.2.2.1, .ref (A (b + 3)), .int x.2.2.2.2.1, .ref (A (b + 4)), .int x.2.2.2.2.2.2.1, .ref (A (b + 5)), .ref (A (b + 6)), .int x.2.2.2.2.2.2.2.2.2.1, .int x.2.2.2.2.2.2.2.2.2.2.1, .int x.2.2.2.2.2.2.2.2.2.2.2]))], [(A (b + 1), .inl (gI g, 268, .inl x.1))], [(A (b + 2), .inl (gI g, 1340, .inl x.2.1))], [(A (b + 3), .inl (gI g, 268, .inl x.2.2.2.1))], [(A (b + 4), .inl (gC g, 70, .inl x.2.2.2.2.2.1))], [(A (b + 5), .inl (gI g, 3, .inl x.2.2.2.2.2.2.2.1))], [(A (b + 6), .inl (gI g, 144, .inl x.2.2.2.2.2.2.2.2.1))]] := hW.re rfl
  replace hl : lv_has ls 6 [(0, .ref (A b)), (1, .int p1), (2, .int p2)] := hl
  unfold f_X6_readableFor at h
  refine lv_iload_n hx hb dX6_readableFor_0 rfl (lv_at hl 1 rfl) ?_
  refine lv_iload_n hx hb dX6_readableFor_1 rfl (lv_at hl 2 rfl) ?_
  obtain ⟨t1, h2, h⟩ := q_b h
  refine r_cSi C hW (nA := 2) (As := [.int p1, .int p2]) (rest := []) (c_X6_isCell l g p1 p2 _ h2) gX6_readableFor_X6_isCell rfl wo_X6_isCell (rmk hR rfl rfl) rfl rfl hl.1 (Nat.le_of_ble_eq_true rfl) rz dX6_readableFor_2 (n := 7) (is := []) (rs := [0, 1, 2, 3, 4, 5, 6]) (bs' := [[(A b, .inr (6, [.ref (A (b + 1)), .ref (A (b + 2)), .int x.2.2.1, .ref (A (b + 3)), .int x.2.2.2.2.1, .ref (A (b + 4)), .int x.2.2.2.2.2.2.1, .ref (A (b + 5)), .ref (A (b + 6)), .int x.2.2.2.2.2.2.2.2.2.1, .int x.2.2.2.2.2.2.2.2.2.2.1, .int x.2.2.2.2.2.2.2.2.2.2.2]))], [(A (b + 1), .inl (gI g, 268, .inl x.1))], [(A (b + 2), .inl (gI g, 1340, .inl x.2.1))], [(A (b + 3), .inl (gI g, 268, .inl x.2.2.2.1))], [(A (b + 4), .inl (gC g, 70, .inl x.2.2.2.2.2.1))], [(A (b + 5), .inl (gI g, 3, .inl x.2.2.2.2.2.2.2.1))], [(A (b + 6), .inl (gI g, 144, .inl x.2.2.2.2.2.2.2.2.1))]]) rfl rfl pm_38 rfl rfl rfl (fun H locs hW => ?_)
  refine lv_if_ne (tgt := 10) hx hb dX6_readableFor_5 (by decide) (fun e3 => ?_) (fun e3 => ?_)
  · replace h := q_f e3 h
    refine lv_iload_n hx hb dX6_readableFor_10 rfl (lv_at hl 1 rfl) ?_
    refine lv_iload_n hx hb dX6_readableFor_11 rfl (lv_at hl 2 rfl) ?_
    obtain ⟨t4, h5, h⟩ := q_b h
    refine r_cSi C hW (nA := 2) (As := [.int p1, .int p2]) (rest := []) (c_X6_cellAt l g p1 p2 _ h5) gX6_readableFor_X6_cellAt rfl wo_X6_cellAt (rmk hR rfl rfl) rfl rfl hl.1 (Nat.le_of_ble_eq_true rfl) rz dX6_readableFor_12 (n := 7) (is := []) (rs := [0, 1, 2, 3, 4, 5, 6]) (bs' := [[(A b, .inr (6, [.ref (A (b + 1)), .ref (A (b + 2)), .int x.2.2.1, .ref (A (b + 3)), .int x.2.2.2.2.1, .ref (A (b + 4)), .int x.2.2.2.2.2.2.1, .ref (A (b + 5)), .ref (A (b + 6)), .int x.2.2.2.2.2.2.2.2.2.1, .int x.2.2.2.2.2.2.2.2.2.2.1, .int x.2.2.2.2.2.2.2.2.2.2.2]))], [(A (b + 1), .inl (gI g, 268, .inl x.1))], [(A (b + 2), .inl (gI g, 1340, .inl x.2.1))], [(A (b + 3), .inl (gI g, 268, .inl x.2.2.2.1))], [(A (b + 4), .inl (gC g, 70, .inl x.2.2.2.2.2.1))], [(A (b + 5), .inl (gI g, 3, .inl x.2.2.2.2.2.2.2.1))], [(A (b + 6), .inl (gI g, 144, .inl x.2.2.2.2.2.2.2.2.1))]]) rfl rfl pm_38 rfl rfl rfl (fun H locs hW => ?_)
    refine lv_istore_n (lv' := [(3, .int t4), (0, .ref (A b)), (1, .int p1), (2, .int p2)]) hx hb dX6_readableFor_15 rfl hl (by decide) rfl (fun ls hl => ?_)
    refine lv_aload_n hx hb dX6_readableFor_16 rfl (lv_at hl 1 rfl) ?_
    refine r_get C hW (K := RX6) (T := TX6) (N := 12) (v := .ref (A (b + 1))) 0 0 0 rfl rfl rfl inX6_readableFor_X6 (by decide) (List.mem_of_getElem? (i := 1) rfl) rfl rfl dX6_readableFor_17 ?_
    refine lv_iload_n hx hb dX6_readableFor_20 rfl (lv_at hl 0 rfl) ?_
    refine lv_iconst (v := 2) hx hb dX6_readableFor_21 (by decide) ?_
    refine lv_iadd hx hb dX6_readableFor_22 ?_
    obtain ⟨g6, h⟩ := q_g h
    refine r_iald C hW 1 0 rfl rfl g6 dX6_readableFor_23 ?_
    refine lv_if_ne (tgt := 30) hx hb dX6_readableFor_24 (by decide) (fun e7 => ?_) (fun e7 => ?_)
    · replace h := q_f e7 h
      refine lv_aload_n hx hb dX6_readableFor_30 rfl (lv_at hl 1 rfl) ?_
      refine r_get C hW (K := RX6) (T := TX6) (N := 12) (v := .ref (A (b + 1))) 0 0 0 rfl rfl rfl inX6_readableFor_X6 (by decide) (List.mem_of_getElem? (i := 1) rfl) rfl rfl dX6_readableFor_31 ?_
      refine lv_iload_n hx hb dX6_readableFor_34 rfl (lv_at hl 0 rfl) ?_
      refine lv_iconst (v := 3) hx hb dX6_readableFor_35 (by decide) ?_
      refine lv_iadd hx hb dX6_readableFor_36 ?_
      obtain ⟨g8, h⟩ := q_g h
      refine r_iald C hW 1 0 rfl rfl g8 dX6_readableFor_37 ?_
      refine lv_istore (lv' := [(4, .int (x.1 (t4 + 3).toNatClampNeg)), (3, .int t4), (0, .ref (A b)), (1, .int p1), (2, .int p2)]) hx hb dX6_readableFor_38 hl (by decide) rfl (fun ls hl => ?_)
      refine lv_iconst (v := 0) hx hb dX6_readableFor_40 (by decide) ?_
      refine lv_istore (lv' := [(5, .int 0), (4, .int (x.1 (t4 + 3).toNatClampNeg)), (3, .int t4), (0, .ref (A b)), (1, .int p1), (2, .int p2)]) hx hb dX6_readableFor_41 hl (by decide) rfl (fun ls hl => ?_)
      have L43 : ∀ n43 : Nat, ∀ (v43 : Int32 × Int32), lpN (f_X6_readableFor_l43 x p1 p2) n43 v43 = some r → ∀ (H : Heap) (locs : List Loc), WdG g Z s.heap H locs [[(A b, .inr (6, [.ref (A (b + 1)), .ref (A (b + 2)), .int x.2.2.1, .ref (A (b + 3)), .int x.2.2.2.2.1, .ref (A (b + 4)), .int x.2.2.2.2.2.2.1, .ref (A (b + 5)), .ref (A (b + 6)), .int x.2.2.2.2.2.2.2.2.2.1, .int x.2.2.2.2.2.2.2.2.2.2.1, .int x.2.2.2.2.2.2.2.2.2.2.2]))], [(A (b + 1), .inl (gI g, 268, .inl x.1))], [(A (b + 2), .inl (gI g, 1340, .inl x.2.1))], [(A (b + 3), .inl (gI g, 268, .inl x.2.2.2.1))], [(A (b + 4), .inl (gC g, 70, .inl x.2.2.2.2.2.1))], [(A (b + 5), .inl (gI g, 3, .inl x.2.2.2.2.2.2.2.1))], [(A (b + 6), .inl (gI g, 144, .inl x.2.2.2.2.2.2.2.2.1))]] → ∀ ls : Array Slot, lv_has ls 6 [(0, .ref (A b)), (1, .int p1), (2, .int p2), (4, .int v43.1), (5, .int v43.2)] → W p l e R s m args below meth c H locs 0 0 Q (F0 m 43 ls []) := by
        intro n43
        induction n43 with
        | zero => intro v43 h; exact absurd (show none = some r from h) (fun h => by cases h)
        | succ n43 ih43 =>
          intro v43 h H locs hW ls hl
          replace h : f_X6_readableFor_l43 x p1 p2 (lpN (f_X6_readableFor_l43 x p1 p2) n43) v43 = some r := h
          unfold f_X6_readableFor_l43 at h
          refine lv_iload hx hb dX6_readableFor_43 (lv_at hl 4 rfl) ?_
          refine lv_sipush (v := 300) hx hb dX6_readableFor_45 (by decide) ?_
          have J79 : ∀ (w79 : Unit), f_X6_readableFor_j79 v43 w79 = some r → ∀ (H : Heap) (locs : List Loc), WdG g Z s.heap H locs [[(A b, .inr (6, [.ref (A (b + 1)), .ref (A (b + 2)), .int x.2.2.1, .ref (A (b + 3)), .int x.2.2.2.2.1, .ref (A (b + 4)), .int x.2.2.2.2.2.2.1, .ref (A (b + 5)), .ref (A (b + 6)), .int x.2.2.2.2.2.2.2.2.2.1, .int x.2.2.2.2.2.2.2.2.2.2.1, .int x.2.2.2.2.2.2.2.2.2.2.2]))], [(A (b + 1), .inl (gI g, 268, .inl x.1))], [(A (b + 2), .inl (gI g, 1340, .inl x.2.1))], [(A (b + 3), .inl (gI g, 268, .inl x.2.2.2.1))], [(A (b + 4), .inl (gC g, 70, .inl x.2.2.2.2.2.1))], [(A (b + 5), .inl (gI g, 3, .inl x.2.2.2.2.2.2.2.1))], [(A (b + 6), .inl (gI g, 144, .inl x.2.2.2.2.2.2.2.2.1))]] → ∀ ls : Array Slot, lv_has ls 6 [(5, .int v43.2)] → W p l e R s m args below meth c H locs 0 0 Q (F0 m 79 ls []) := by
            intro w79 h H locs hW ls hl
            unfold f_X6_readableFor_j79 at h
            refine lv_iload hx hb dX6_readableFor_79 (lv_at hl 0 rfl) ?_
            refine lv_sipush (v := 300) hx hb dX6_readableFor_81 (by decide) ?_
            refine lv_icmp_le (tgt := 92) hx hb dX6_readableFor_84 (by decide) (fun e9 => ?_) (fun e9 => ?_)
            · replace h := q_t e9 h
              refine lv_iload hx hb dX6_readableFor_92 (lv_at hl 0 rfl) ?_
              cases h
              exact E _ _ _ _ _ hW rfl rfl dX6_readableFor_94
            · replace h := q_f e9 h
              refine lv_bipush (v := (-6)) hx hb dX6_readableFor_87 (by decide) ?_
              refine lv_goto (tgt := 94) hx hb dX6_readableFor_89 (by decide) ?_
              cases h
              exact E _ _ _ _ _ hW rfl rfl dX6_readableFor_94
          refine lv_icmp_gt (tgt := 79) hx hb dX6_readableFor_48 (by decide) (fun e10 => ?_) (fun e10 => ?_)
          · replace h := q_t e10 h
            exact J79 () h _ _ hW _ (lv_sub hl [4] rfl)
          · replace h := q_f e10 h
            refine lv_iload hx hb dX6_readableFor_51 (lv_at hl 3 rfl) ?_
            refine lv_aload_n hx hb dX6_readableFor_53 rfl (lv_at hl 0 rfl) ?_
            refine r_get C hW (K := RX6) (T := TX6) (N := 12) (v := .ref (A (b + 1))) 0 0 0 rfl rfl rfl inX6_readableFor_X6 (by decide) (List.mem_of_getElem? (i := 1) rfl) rfl rfl dX6_readableFor_54 ?_
            refine lv_iconst (v := 0) hx hb dX6_readableFor_57 (by decide) ?_
            obtain ⟨g11, h⟩ := q_g h
            refine r_iald C hW 1 0 rfl rfl g11 dX6_readableFor_58 ?_
            refine lv_icmp_lt (tgt := 79) hx hb dX6_readableFor_59 (by decide) (fun e12 => ?_) (fun e12 => ?_)
            · replace h := q_t e12 h
              exact J79 () h _ _ hW _ (lv_sub hl [4] rfl)
            · replace h := q_f e12 h
              refine lv_iload hx hb dX6_readableFor_62 (lv_at hl 3 rfl) ?_
              refine lv_aload_n hx hb dX6_readableFor_64 rfl (lv_at hl 0 rfl) ?_
              refine lv_iload_n hx hb dX6_readableFor_65 rfl (lv_at hl 1 rfl) ?_
              refine lv_iload_n hx hb dX6_readableFor_66 rfl (lv_at hl 2 rfl) ?_
              obtain ⟨t13, h14, h⟩ := q_b h
              refine r_cVi C hW (nA := 2) (As := [.int p1, .int p2]) (rest := [.int v43.1]) (c_X6_lossOf l g A b x p1 p2 _ h14) gX6_readableFor_X6_lossOf rfl ⟨rfl, wo_X6_lossOf⟩ (rmk hR rfl rfl) rfl rfl rfl rfl hl.1 (Nat.le_of_ble_eq_true rfl) rz dX6_readableFor_67 (n := 7) (is := [0, 1, 2, 3, 4, 5, 6]) (rs := []) (bs' := [[(A b, .inr (6, [.ref (A (b + 1)), .ref (A (b + 2)), .int x.2.2.1, .ref (A (b + 3)), .int x.2.2.2.2.1, .ref (A (b + 4)), .int x.2.2.2.2.2.2.1, .ref (A (b + 5)), .ref (A (b + 6)), .int x.2.2.2.2.2.2.2.2.2.1, .int x.2.2.2.2.2.2.2.2.2.2.1, .int x.2.2.2.2.2.2.2.2.2.2.2]))], [(A (b + 1), .inl (gI g, 268, .inl x.1))], [(A (b + 2), .inl (gI g, 1340, .inl x.2.1))], [(A (b + 3), .inl (gI g, 268, .inl x.2.2.2.1))], [(A (b + 4), .inl (gC g, 70, .inl x.2.2.2.2.2.1))], [(A (b + 5), .inl (gI g, 3, .inl x.2.2.2.2.2.2.2.1))], [(A (b + 6), .inl (gI g, 144, .inl x.2.2.2.2.2.2.2.2.1))]]) rfl rfl pm_39 rfl rfl rfl (fun H locs hW => ?_)
              refine lv_isub hx hb dX6_readableFor_70 ?_
              refine lv_istore (lv' := [(4, .int (v43.1 - t13)), (0, .ref (A b)), (1, .int p1), (2, .int p2), (5, .int v43.2)]) hx hb dX6_readableFor_71 hl (by decide) rfl (fun ls hl => ?_)
              refine lv_iinc (v := (v43.2 + 1)) (lv' := [(5, .int (v43.2 + 1)), (4, .int (v43.1 - t13)), (0, .ref (A b)), (1, .int p1), (2, .int p2)]) hx hb dX6_readableFor_73 hl (k := 4) rfl rfl (by decide) rfl (fun ls hl => ?_)
              refine lv_goto (tgt := 43) hx hb dX6_readableFor_76 (by decide) ?_
              exact ih43 ((v43.1 - t13), (v43.2 + 1)) h _ _ hW _ (lv_sub hl [2, 3, 4, 1, 0] rfl)
      exact L43 3000 ((x.1 (t4 + 3).toNatClampNeg), 0) h _ _ hW _ (lv_sub hl [3, 4, 5, 1, 0] rfl)
    · replace h := q_t e7 h
      refine lv_bipush (v := (-6)) hx hb dX6_readableFor_27 (by decide) ?_
      cases h
      exact E _ _ _ _ _ hW rfl rfl dX6_readableFor_29
  · replace h := q_t e3 h
    refine lv_iconst (v := (-1)) hx hb dX6_readableFor_8 (by decide) ?_
    cases h
    exact E _ _ _ _ _ hW rfl rfl dX6_readableFor_9
def f_X6_wouldPaint_j85 (v5 : Int32 × Int32) (w85 : Int32) : Option (Int32) :=
if w85 ≤ v5.1 then (
some w85)
else (
some v5.1)
def f_X6_wouldPaint_l14 (x : TX6s) (k5 : (Int32 × Int32) → Option (Int32)) (v5 : Int32 × Int32) (k14 : (Int32 × Int32) → Option (Int32)) (v14 : Int32 × Int32) : Option (Int32) :=
if 8 ≤ v14.2 then (
k5 (v14.1, (v5.2 + 1)))
else (
(f_X6_signAt v5.2 v14.2).bind fun t9 =>
(f_X6_isWeak x t9).bind fun t11 =>
if t11 = 0 then (
k14 ((v14.1 + 0), (v14.2 + 1)))
else (
k14 ((v14.1 + 1), (v14.2 + 1))))
def f_X6_wouldPaint_l5 (x : TX6s) (p2 : Int32) (k5 : (Int32 × Int32) → Option (Int32)) (v5 : Int32 × Int32) : Option (Int32) :=
if p2 < v5.2 then (
if (5 : Int32) < 0 ∨ 268 ≤ (5 : Int32).toNatClampNeg then none else
if (1 : Int32) < 0 ∨ 268 ≤ (1 : Int32).toNatClampNeg then none else
if (x.1 (1 : Int32).toNatClampNeg) ≤ (x.1 (5 : Int32).toNatClampNeg) then (
if (1 : Int32) < 0 ∨ 268 ≤ (1 : Int32).toNatClampNeg then none else
f_X6_wouldPaint_j85 v5 (x.1 (1 : Int32).toNatClampNeg))
else (
if (5 : Int32) < 0 ∨ 268 ≤ (5 : Int32).toNatClampNeg then none else
f_X6_wouldPaint_j85 v5 (x.1 (5 : Int32).toNatClampNeg)))
else (
lpN (f_X6_wouldPaint_l14 x k5 v5) 3000 (v5.1, 0))
def f_X6_wouldPaint (x : TX6s) (p1 : Int32) (p2 : Int32) : Option (Int32) :=
lpN (f_X6_wouldPaint_l5 x p2) 3000 (0, p1)
theorem wo_X6_wouldPaint : wordsOk yX6_wouldPaint 2 := by decide +kernel
theorem inX6_wouldPaint_X6 : ∀ w ∈ wsX60, w ∈ wsX6_wouldPaint := fun _ h => List.mem_cons_of_mem _ (List.mem_append_right _ h)
set_option maxHeartbeats 4000000 in
set_option maxRecDepth 100000 in
theorem c_X6_wouldPaint (l : Launch) (g : GG) (A : Nat → Nat) (b : Nat) (x : TX6s) (p1 : Int32) (p2 : Int32) (r : Int32) (h : f_X6_wouldPaint x p1 p2 = some r) : CI l yX6_wouldPaint wsX6_wouldPaint 2 42 g [.ref (A b), .int p1, .int p2] (wX6 g A b x) r (wX6 g A b x) := by
  refine CI.mk (own := RX6) (by decide) rfl rfl (Nat.le_of_ble_eq_true rfl) ?_
  intro p e R s m args below meth c Z Q C E hR H hW ls hl
  have hx := C.1.1
  have hb := C.1.2.1
  have hown := C.1.2.2.2.1
  replace hW : WdG g Z s.heap H [] [[(A b, .inr (6, [.ref (A (b + 1)), .ref (A (b + 2)), .int x.2.2.1, .ref (A (b + 3)), .int x.2.2.2.2.1, .ref (A (b + 4)), .int x.2.2.2.2.2.2.1, .ref (A (b + 5)), .ref (A (b + 6)), .int x.2.2.2.2.2.2.2.2.2.1, .int x.2.2.2.2.2.2.2.2.2.2.1, .int x.2.2.2.2.2.2.2.2.2.2.2]))], [(A (b + 1), .inl (gI g, 268, .inl x.1))], [(A (b + 2), .inl (gI g, 1340, .inl x.2.1))], [(A (b + 3), .inl (gI g, 268, .inl x.2.2.2.1))], [(A (b + 4), .inl (gC g, 70, .inl x.2.2.2.2.2.1))], [(A (b + 5), .inl (gI g, 3, .inl x.2.2.2.2.2.2.2.1))], [(A (b + 6), .inl (gI g, 144, .inl x.2.2.2.2.2.2.2.2.1))]] := hW.re rfl
  replace hl : lv_has ls 6 [(0, .ref (A b)), (1, .int p1), (2, .int p2)] := hl
  unfold f_X6_wouldPaint at h
  refine lv_iconst (v := 0) hx hb dX6_wouldPaint_0 (by decide) ?_
  refine lv_istore_n (lv' := [(3, .int 0), (0, .ref (A b)), (1, .int p1), (2, .int p2)]) hx hb dX6_wouldPaint_1 rfl hl (by decide) rfl (fun ls hl => ?_)
  refine lv_iload_n hx hb dX6_wouldPaint_2 rfl (lv_at hl 2 rfl) ?_
  refine lv_istore (lv' := [(4, .int p1), (3, .int 0), (0, .ref (A b)), (1, .int p1), (2, .int p2)]) hx hb dX6_wouldPaint_3 hl (by decide) rfl (fun ls hl => ?_)
  have L5 : ∀ n5 : Nat, ∀ (v5 : Int32 × Int32), lpN (f_X6_wouldPaint_l5 x p2) n5 v5 = some r → ∀ (H : Heap) (locs : List Loc), WdG g Z s.heap H locs [[(A b, .inr (6, [.ref (A (b + 1)), .ref (A (b + 2)), .int x.2.2.1, .ref (A (b + 3)), .int x.2.2.2.2.1, .ref (A (b + 4)), .int x.2.2.2.2.2.2.1, .ref (A (b + 5)), .ref (A (b + 6)), .int x.2.2.2.2.2.2.2.2.2.1, .int x.2.2.2.2.2.2.2.2.2.2.1, .int x.2.2.2.2.2.2.2.2.2.2.2]))], [(A (b + 1), .inl (gI g, 268, .inl x.1))], [(A (b + 2), .inl (gI g, 1340, .inl x.2.1))], [(A (b + 3), .inl (gI g, 268, .inl x.2.2.2.1))], [(A (b + 4), .inl (gC g, 70, .inl x.2.2.2.2.2.1))], [(A (b + 5), .inl (gI g, 3, .inl x.2.2.2.2.2.2.2.1))], [(A (b + 6), .inl (gI g, 144, .inl x.2.2.2.2.2.2.2.2.1))]] → ∀ ls : Array Slot, lv_has ls 6 [(0, .ref (A b)), (2, .int p2), (3, .int v5.1), (4, .int v5.2)] → W p l e R s m args below meth c H locs 0 0 Q (F0 m 5 ls []) := by
    intro n5
    induction n5 with
    | zero => intro v5 h; exact absurd (show none = some r from h) (fun h => by cases h)
    | succ n5 ih5 =>
      intro v5 h H locs hW ls hl
      replace h : f_X6_wouldPaint_l5 x p2 (lpN (f_X6_wouldPaint_l5 x p2) n5) v5 = some r := h
      unfold f_X6_wouldPaint_l5 at h
      refine lv_iload hx hb dX6_wouldPaint_5 (lv_at hl 3 rfl) ?_
      refine lv_iload_n hx hb dX6_wouldPaint_7 rfl (lv_at hl 1 rfl) ?_
      refine lv_icmp_gt (tgt := 55) hx hb dX6_wouldPaint_8 (by decide) (fun e1 => ?_) (fun e1 => ?_)
      · replace h := q_t e1 h
        refine lv_aload_n hx hb dX6_wouldPaint_55 rfl (lv_at hl 0 rfl) ?_
        refine r_get C hW (K := RX6) (T := TX6) (N := 12) (v := .ref (A (b + 1))) 0 0 0 rfl rfl rfl inX6_wouldPaint_X6 (by decide) (List.mem_of_getElem? (i := 1) rfl) rfl rfl dX6_wouldPaint_56 ?_
        refine lv_iconst (v := 5) hx hb dX6_wouldPaint_59 (by decide) ?_
        obtain ⟨g2, h⟩ := q_g h
        refine r_iald C hW 1 0 rfl rfl g2 dX6_wouldPaint_60 ?_
        refine lv_aload_n hx hb dX6_wouldPaint_61 rfl (lv_at hl 0 rfl) ?_
        refine r_get C hW (K := RX6) (T := TX6) (N := 12) (v := .ref (A (b + 1))) 0 0 0 rfl rfl rfl inX6_wouldPaint_X6 (by decide) (List.mem_of_getElem? (i := 1) rfl) rfl rfl dX6_wouldPaint_62 ?_
        refine lv_iconst (v := 1) hx hb dX6_wouldPaint_65 (by decide) ?_
        obtain ⟨g3, h⟩ := q_g h
        refine r_iald C hW 1 0 rfl rfl g3 dX6_wouldPaint_66 ?_
        have J85 : ∀ (w85 : Int32), f_X6_wouldPaint_j85 v5 w85 = some r → ∀ (H : Heap) (locs : List Loc), WdG g Z s.heap H locs [[(A b, .inr (6, [.ref (A (b + 1)), .ref (A (b + 2)), .int x.2.2.1, .ref (A (b + 3)), .int x.2.2.2.2.1, .ref (A (b + 4)), .int x.2.2.2.2.2.2.1, .ref (A (b + 5)), .ref (A (b + 6)), .int x.2.2.2.2.2.2.2.2.2.1, .int x.2.2.2.2.2.2.2.2.2.2.1, .int x.2.2.2.2.2.2.2.2.2.2.2]))], [(A (b + 1), .inl (gI g, 268, .inl x.1))], [(A (b + 2), .inl (gI g, 1340, .inl x.2.1))], [(A (b + 3), .inl (gI g, 268, .inl x.2.2.2.1))], [(A (b + 4), .inl (gC g, 70, .inl x.2.2.2.2.2.1))], [(A (b + 5), .inl (gI g, 3, .inl x.2.2.2.2.2.2.2.1))], [(A (b + 6), .inl (gI g, 144, .inl x.2.2.2.2.2.2.2.2.1))]] → ∀ ls : Array Slot, lv_has ls 6 [(3, .int v5.1)] → W p l e R s m args below meth c H locs 0 0 Q (F0 m 85 ls [.int w85]) := by
          intro w85 h H locs hW ls hl
          unfold f_X6_wouldPaint_j85 at h
          refine lv_istore (lv' := [(4, .int w85), (3, .int v5.1)]) hx hb dX6_wouldPaint_85 hl (by decide) rfl (fun ls hl => ?_)
          refine lv_iload_n hx hb dX6_wouldPaint_87 rfl (lv_at hl 1 rfl) ?_
          refine lv_iload hx hb dX6_wouldPaint_88 (lv_at hl 0 rfl) ?_
          refine lv_icmp_ge (tgt := 97) hx hb dX6_wouldPaint_90 (by decide) (fun e4 => ?_) (fun e4 => ?_)
          · replace h := q_t e4 h
            refine lv_iload hx hb dX6_wouldPaint_97 (lv_at hl 0 rfl) ?_
            cases h
            exact E _ _ _ _ _ hW rfl rfl dX6_wouldPaint_99
          · replace h := q_f e4 h
            refine lv_iload_n hx hb dX6_wouldPaint_93 rfl (lv_at hl 1 rfl) ?_
            refine lv_goto (tgt := 99) hx hb dX6_wouldPaint_94 (by decide) ?_
            cases h
            exact E _ _ _ _ _ hW rfl rfl dX6_wouldPaint_99
        refine lv_icmp_ge (tgt := 79) hx hb dX6_wouldPaint_67 (by decide) (fun e5 => ?_) (fun e5 => ?_)
        · replace h := q_t e5 h
          refine lv_aload_n hx hb dX6_wouldPaint_79 rfl (lv_at hl 0 rfl) ?_
          refine r_get C hW (K := RX6) (T := TX6) (N := 12) (v := .ref (A (b + 1))) 0 0 0 rfl rfl rfl inX6_wouldPaint_X6 (by decide) (List.mem_of_getElem? (i := 1) rfl) rfl rfl dX6_wouldPaint_80 ?_
          refine lv_iconst (v := 1) hx hb dX6_wouldPaint_83 (by decide) ?_
          obtain ⟨g6, h⟩ := q_g h
          refine r_iald C hW 1 0 rfl rfl g6 dX6_wouldPaint_84 ?_
          exact J85 (x.1 (1 : Int32).toNatClampNeg) h _ _ hW _ (lv_sub hl [2] rfl)
        · replace h := q_f e5 h
          refine lv_aload_n hx hb dX6_wouldPaint_70 rfl (lv_at hl 0 rfl) ?_
          refine r_get C hW (K := RX6) (T := TX6) (N := 12) (v := .ref (A (b + 1))) 0 0 0 rfl rfl rfl inX6_wouldPaint_X6 (by decide) (List.mem_of_getElem? (i := 1) rfl) rfl rfl dX6_wouldPaint_71 ?_
          refine lv_iconst (v := 5) hx hb dX6_wouldPaint_74 (by decide) ?_
          obtain ⟨g7, h⟩ := q_g h
          refine r_iald C hW 1 0 rfl rfl g7 dX6_wouldPaint_75 ?_
          refine lv_goto (tgt := 85) hx hb dX6_wouldPaint_76 (by decide) ?_
          exact J85 (x.1 (5 : Int32).toNatClampNeg) h _ _ hW _ (lv_sub hl [2] rfl)
      · replace h := q_f e1 h
        refine lv_iconst (v := 0) hx hb dX6_wouldPaint_11 (by decide) ?_
        refine lv_istore (lv' := [(5, .int 0), (0, .ref (A b)), (2, .int p2), (3, .int v5.1), (4, .int v5.2)]) hx hb dX6_wouldPaint_12 hl (by decide) rfl (fun ls hl => ?_)
        have L14 : ∀ n14 : Nat, ∀ (v14 : Int32 × Int32), lpN (f_X6_wouldPaint_l14 x (lpN (f_X6_wouldPaint_l5 x p2) n5) v5) n14 v14 = some r → ∀ (H : Heap) (locs : List Loc), WdG g Z s.heap H locs [[(A b, .inr (6, [.ref (A (b + 1)), .ref (A (b + 2)), .int x.2.2.1, .ref (A (b + 3)), .int x.2.2.2.2.1, .ref (A (b + 4)), .int x.2.2.2.2.2.2.1, .ref (A (b + 5)), .ref (A (b + 6)), .int x.2.2.2.2.2.2.2.2.2.1, .int x.2.2.2.2.2.2.2.2.2.2.1, .int x.2.2.2.2.2.2.2.2.2.2.2]))], [(A (b + 1), .inl (gI g, 268, .inl x.1))], [(A (b + 2), .inl (gI g, 1340, .inl x.2.1))], [(A (b + 3), .inl (gI g, 268, .inl x.2.2.2.1))], [(A (b + 4), .inl (gC g, 70, .inl x.2.2.2.2.2.1))], [(A (b + 5), .inl (gI g, 3, .inl x.2.2.2.2.2.2.2.1))], [(A (b + 6), .inl (gI g, 144, .inl x.2.2.2.2.2.2.2.2.1))]] → ∀ ls : Array Slot, lv_has ls 6 [(0, .ref (A b)), (2, .int p2), (3, .int v14.1), (4, .int v5.2), (5, .int v14.2)] → W p l e R s m args below meth c H locs 0 0 Q (F0 m 14 ls []) := by
          intro n14
          induction n14 with
          | zero => intro v14 h; exact absurd (show none = some r from h) (fun h => by cases h)
          | succ n14 ih14 =>
            intro v14 h H locs hW ls hl
            replace h : f_X6_wouldPaint_l14 x (lpN (f_X6_wouldPaint_l5 x p2) n5) v5 (lpN (f_X6_wouldPaint_l14 x (lpN (f_X6_wouldPaint_l5 x p2) n5) v5) n14) v14 = some r := h
            unfold f_X6_wouldPaint_l14 at h
            refine lv_iload hx hb dX6_wouldPaint_14 (lv_at hl 4 rfl) ?_
            refine lv_bipush (v := 8) hx hb dX6_wouldPaint_16 (by decide) ?_
            refine lv_icmp_ge (tgt := 49) hx hb dX6_wouldPaint_18 (by decide) (fun e8 => ?_) (fun e8 => ?_)
            · replace h := q_t e8 h
              refine lv_iinc (v := (v5.2 + 1)) (lv' := [(4, .int (v5.2 + 1)), (0, .ref (A b)), (2, .int p2), (3, .int v14.1), (5, .int v14.2)]) hx hb dX6_wouldPaint_49 hl (k := 3) rfl rfl (by decide) rfl (fun ls hl => ?_)
              refine lv_goto (tgt := 5) hx hb dX6_wouldPaint_52 (by decide) ?_
              exact ih5 (v14.1, (v5.2 + 1)) h _ _ hW _ (lv_sub hl [1, 2, 3, 0] rfl)
            · replace h := q_f e8 h
              refine lv_iload_n hx hb dX6_wouldPaint_21 rfl (lv_at hl 2 rfl) ?_
              refine lv_aload_n hx hb dX6_wouldPaint_22 rfl (lv_at hl 0 rfl) ?_
              refine lv_iload hx hb dX6_wouldPaint_23 (lv_at hl 3 rfl) ?_
              refine lv_iload hx hb dX6_wouldPaint_25 (lv_at hl 4 rfl) ?_
              obtain ⟨t9, h10, h⟩ := q_b h
              refine r_cSi C hW (nA := 2) (As := [.int v5.2, .int v14.2]) (rest := [.ref (A b), .int v14.1]) (c_X6_signAt l g v5.2 v14.2 _ h10) gX6_wouldPaint_X6_signAt rfl wo_X6_signAt (rmk hR rfl rfl) rfl rfl hl.1 (Nat.le_of_ble_eq_true rfl) rz dX6_wouldPaint_27 (n := 7) (is := []) (rs := [0, 1, 2, 3, 4, 5, 6]) (bs' := [[(A b, .inr (6, [.ref (A (b + 1)), .ref (A (b + 2)), .int x.2.2.1, .ref (A (b + 3)), .int x.2.2.2.2.1, .ref (A (b + 4)), .int x.2.2.2.2.2.2.1, .ref (A (b + 5)), .ref (A (b + 6)), .int x.2.2.2.2.2.2.2.2.2.1, .int x.2.2.2.2.2.2.2.2.2.2.1, .int x.2.2.2.2.2.2.2.2.2.2.2]))], [(A (b + 1), .inl (gI g, 268, .inl x.1))], [(A (b + 2), .inl (gI g, 1340, .inl x.2.1))], [(A (b + 3), .inl (gI g, 268, .inl x.2.2.2.1))], [(A (b + 4), .inl (gC g, 70, .inl x.2.2.2.2.2.1))], [(A (b + 5), .inl (gI g, 3, .inl x.2.2.2.2.2.2.2.1))], [(A (b + 6), .inl (gI g, 144, .inl x.2.2.2.2.2.2.2.2.1))]]) rfl rfl pm_38 rfl rfl rfl (fun H locs hW => ?_)
              obtain ⟨t11, h12, h⟩ := q_b h
              refine r_cVi C hW (nA := 1) (As := [.int t9]) (rest := [.int v14.1]) (c_X6_isWeak l g A b x t9 _ h12) gX6_wouldPaint_X6_isWeak rfl ⟨rfl, wo_X6_isWeak⟩ (rmk hR rfl rfl) rfl rfl rfl rfl hl.1 (Nat.le_of_ble_eq_true rfl) rz dX6_wouldPaint_30 (n := 7) (is := [0, 1, 2, 3, 4, 5, 6]) (rs := []) (bs' := [[(A b, .inr (6, [.ref (A (b + 1)), .ref (A (b + 2)), .int x.2.2.1, .ref (A (b + 3)), .int x.2.2.2.2.1, .ref (A (b + 4)), .int x.2.2.2.2.2.2.1, .ref (A (b + 5)), .ref (A (b + 6)), .int x.2.2.2.2.2.2.2.2.2.1, .int x.2.2.2.2.2.2.2.2.2.2.1, .int x.2.2.2.2.2.2.2.2.2.2.2]))], [(A (b + 1), .inl (gI g, 268, .inl x.1))], [(A (b + 2), .inl (gI g, 1340, .inl x.2.1))], [(A (b + 3), .inl (gI g, 268, .inl x.2.2.2.1))], [(A (b + 4), .inl (gC g, 70, .inl x.2.2.2.2.2.1))], [(A (b + 5), .inl (gI g, 3, .inl x.2.2.2.2.2.2.2.1))], [(A (b + 6), .inl (gI g, 144, .inl x.2.2.2.2.2.2.2.2.1))]]) rfl rfl pm_39 rfl rfl rfl (fun H locs hW => ?_)
              refine lv_if_eq (tgt := 40) hx hb dX6_wouldPaint_33 (by decide) (fun e13 => ?_) (fun e13 => ?_)
              · replace h := q_t e13 h
                refine lv_iconst (v := 0) hx hb dX6_wouldPaint_40 (by decide) ?_
                refine lv_iadd hx hb dX6_wouldPaint_41 ?_
                refine lv_istore_n (lv' := [(3, .int (v14.1 + 0)), (0, .ref (A b)), (2, .int p2), (4, .int v5.2), (5, .int v14.2)]) hx hb dX6_wouldPaint_42 rfl hl (by decide) rfl (fun ls hl => ?_)
                refine lv_iinc (v := (v14.2 + 1)) (lv' := [(5, .int (v14.2 + 1)), (3, .int (v14.1 + 0)), (0, .ref (A b)), (2, .int p2), (4, .int v5.2)]) hx hb dX6_wouldPaint_43 hl (k := 4) rfl rfl (by decide) rfl (fun ls hl => ?_)
                refine lv_goto (tgt := 14) hx hb dX6_wouldPaint_46 (by decide) ?_
                exact ih14 ((v14.1 + 0), (v14.2 + 1)) h _ _ hW _ (lv_sub hl [2, 3, 1, 4, 0] rfl)
              · replace h := q_f e13 h
                refine lv_iconst (v := 1) hx hb dX6_wouldPaint_36 (by decide) ?_
                refine lv_goto (tgt := 41) hx hb dX6_wouldPaint_37 (by decide) ?_
                refine lv_iadd hx hb dX6_wouldPaint_41 ?_
                refine lv_istore_n (lv' := [(3, .int (v14.1 + 1)), (0, .ref (A b)), (2, .int p2), (4, .int v5.2), (5, .int v14.2)]) hx hb dX6_wouldPaint_42 rfl hl (by decide) rfl (fun ls hl => ?_)
                refine lv_iinc (v := (v14.2 + 1)) (lv' := [(5, .int (v14.2 + 1)), (3, .int (v14.1 + 1)), (0, .ref (A b)), (2, .int p2), (4, .int v5.2)]) hx hb dX6_wouldPaint_43 hl (k := 4) rfl rfl (by decide) rfl (fun ls hl => ?_)
                refine lv_goto (tgt := 14) hx hb dX6_wouldPaint_46 (by decide) ?_
                exact ih14 ((v14.1 + 1), (v14.2 + 1)) h _ _ hW _ (lv_sub hl [2, 3, 1, 4, 0] rfl)
        exact L14 3000 (v5.1, 0) h _ _ hW _ (lv_sub hl [1, 2, 3, 4, 0] rfl)
  exact L5 3000 (0, p1) h _ _ hW _ (lv_sub hl [2, 4, 1, 0] rfl)
