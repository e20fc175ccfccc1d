def f_L_low (p1 : Int32) (p2 : Int32) : Option (Int32) :=
if p2 = 0 then none else
some ((p1 &&& 2147483647) - (p1 &&& 2147483647) / p2 * p2)
theorem wo_L_low : wordsOk yL_low 2 := by decide +kernel
set_option maxHeartbeats 4000000 in
set_option maxRecDepth 100000 in
theorem c_L_low (l : Launch) (g : GG) (p1 : Int32) (p2 : Int32) (r : Int32) (h : f_L_low p1 p2 = some r) : CI l yL_low wsL_low 0 0 g [.int p1, .int p2] ([]) r ([]) := by
  refine CI.mk (own := RL) (by decide) rfl rfl (Nat.le_of_ble_eq_true rfl) ?_
  intro p e R s m args below meth c Z Q C E hR H hW ls hl
  have hx := C.1.1
  have hb := C.1.2.1
  have hown := C.1.2.2.2.1
  replace hW : WdG g Z s.heap H [] [] := hW.re rfl
  replace hl : lv_has ls 2 [(0, .int p1), (1, .int p2)] := hl
  unfold f_L_low at h
  refine lv_iload_n hx hb dL_low_0 rfl (lv_at hl 0 rfl) ?_
  refine lv_ldc (v := 2147483647) hx hb hown (C.1.2.2.2.2 _ (List.mem_of_getElem? (i := 1) rfl)) dL_low_1 ?_
  refine lv_iand hx hb dL_low_3 ?_
  refine lv_iload_n hx hb dL_low_4 rfl (lv_at hl 1 rfl) ?_
  obtain ⟨g1, h⟩ := q_g h
  refine lv_irem hx hb dL_low_5 g1 ?_
  cases h
  exact E _ _ _ _ _ hW rfl rfl dL_low_6
def f_L_read (x : TV48s) (y : TV48s) (z3 : TV10s) (p1 : Int32) : Option (Int32) :=
if p1 < 0 ∨ 48 ≤ (p1).toNatClampNeg then none else
if (x (p1).toNatClampNeg) < 0 then (
some 0)
else (
if p1 < 0 ∨ 48 ≤ (p1).toNatClampNeg then none else
if (0 : Int32) < 0 ∨ 10 ≤ (0 : Int32).toNatClampNeg then none else
if (y (p1).toNatClampNeg) < (z3 (0 : Int32).toNatClampNeg) then (
some 0)
else (
some 1))
theorem wo_L_read : wordsOk yL_read 4 := by decide +kernel
set_option maxHeartbeats 4000000 in
set_option maxRecDepth 100000 in
theorem c_L_read (l : Launch) (g : GG) (A : Nat → Nat) (b : Nat) (A2 : Nat → Nat) (b2 : Nat) (A3 : Nat → Nat) (b3 : Nat) (x : TV48s) (y : TV48s) (z3 : TV10s) (p1 : Int32) (r : Int32) (h : f_L_read x y z3 p1 = some r) : CI l yL_read wsL_read 0 0 g [.ref (A b), .ref (A2 b2), .ref (A3 b3), .int p1] (wV48 g A b x ++ wV48 g A2 b2 y ++ wV10 g A3 b3 z3) r (wV48 g A b x ++ wV48 g A2 b2 y ++ wV10 g A3 b3 z3) := by
  refine CI.mk (own := RL) (by decide) rfl rfl (Nat.le_of_ble_eq_true rfl) ?_
  intro p e R s m args below meth c Z Q C E hR H hW ls hl
  have hx := C.1.1
  have hb := C.1.2.1
  have hown := C.1.2.2.2.1
  replace hW : WdG g Z s.heap H [] [[(A b, .inl (gI g, 48, .inl x))], [(A2 b2, .inl (gI g, 48, .inl y))], [(A3 b3, .inl (gI g, 10, .inl z3))]] := hW.re rfl
  replace hl : lv_has ls 4 [(0, .ref (A b)), (1, .ref (A2 b2)), (2, .ref (A3 b3)), (3, .int p1)] := hl
  unfold f_L_read at h
  refine lv_aload_n hx hb dL_read_0 rfl (lv_at hl 0 rfl) ?_
  refine lv_iload_n hx hb dL_read_1 rfl (lv_at hl 3 rfl) ?_
  obtain ⟨g1, h⟩ := q_g h
  refine r_iald C hW 0 0 rfl rfl g1 dL_read_2 ?_
  refine lv_if_lt (tgt := 19) hx hb dL_read_3 (by decide) (fun e2 => ?_) (fun e2 => ?_)
  · replace h := q_t e2 h
    refine lv_iconst (v := 0) hx hb dL_read_19 (by decide) ?_
    cases h
    exact E _ _ _ _ _ hW rfl rfl dL_read_20
  · replace h := q_f e2 h
    refine lv_aload_n hx hb dL_read_6 rfl (lv_at hl 1 rfl) ?_
    refine lv_iload_n hx hb dL_read_7 rfl (lv_at hl 3 rfl) ?_
    obtain ⟨g3, h⟩ := q_g h
    refine r_iald C hW 1 0 rfl rfl g3 dL_read_8 ?_
    refine lv_aload_n hx hb dL_read_9 rfl (lv_at hl 2 rfl) ?_
    refine lv_iconst (v := 0) hx hb dL_read_10 (by decide) ?_
    obtain ⟨g4, h⟩ := q_g h
    refine r_iald C hW 2 0 rfl rfl g4 dL_read_11 ?_
    refine lv_icmp_lt (tgt := 19) hx hb dL_read_12 (by decide) (fun e5 => ?_) (fun e5 => ?_)
    · replace h := q_t e5 h
      refine lv_iconst (v := 0) hx hb dL_read_19 (by decide) ?_
      cases h
      exact E _ _ _ _ _ hW rfl rfl dL_read_20
    · replace h := q_f e5 h
      refine lv_iconst (v := 1) hx hb dL_read_15 (by decide) ?_
      refine lv_goto (tgt := 20) hx hb dL_read_16 (by decide) ?_
      cases h
      exact E _ _ _ _ _ hW rfl rfl dL_read_20
def f_L_reason_j269 (w206 : Int32) (w269 : Int32) : Option (Int32) :=
if w206 = 0 then (
if w269 = 0 then (
some 0)
else (
some 2))
else (
some 2)
def f_L_reason_j268 (w206 : Int32) (w268 : Unit) : Option (Int32) :=
f_L_reason_j269 w206 0
def f_L_reason_j206 (x : TV48s) (y : TV32s) (p1 : Int32) (p2 : Int32) (p3 : Int32) (w206 : Int32) : Option (Int32) :=
if 2 ≤ p1 then (
f_L_reason_j268 w206 ())
else (
if (((16 * p1) + 16) + p2) < 0 ∨ 48 ≤ (((16 * p1) + 16) + p2).toNatClampNeg then none else
if ((x (((16 * p1) + 16) + p2).toNatClampNeg) + p3) = 1 then (
if (((16 * p1) + 16) + p2) < 0 ∨ 48 ≤ (((16 * p1) + 16) + p2).toNatClampNeg then none else
if (x (((16 * p1) + 16) + p2).toNatClampNeg) < 0 then (
f_L_reason_j268 w206 ())
else (
if 2 ≤ p3 then (
f_L_reason_j268 w206 ())
else (
if ((16 * p1) + p2) < 0 ∨ 32 ≤ ((16 * p1) + p2).toNatClampNeg then none else
if ((y ((16 * p1) + p2).toNatClampNeg) - (y ((16 * p1) + p2).toNatClampNeg) / 2 * 2) = 0 then (
f_L_reason_j269 w206 1)
else (
f_L_reason_j268 w206 ()))))
else (
f_L_reason_j268 w206 ()))
def f_L_reason_j205 (x : TV48s) (y : TV32s) (p1 : Int32) (p2 : Int32) (p3 : Int32) (w205 : Unit) : Option (Int32) :=
f_L_reason_j206 x y p1 p2 p3 0
def f_L_reason_j143 (x : TV48s) (y : TV32s) (p1 : Int32) (p2 : Int32) (p3 : Int32) (w143 : Unit) : Option (Int32) :=
if p1 ≤ 0 then (
f_L_reason_j205 x y p1 p2 p3 ())
else (
if (((16 * p1) - 16) + p2) < 0 ∨ 48 ≤ (((16 * p1) - 16) + p2).toNatClampNeg then none else
if ((x (((16 * p1) - 16) + p2).toNatClampNeg) + p3) = 1 then (
if (((16 * p1) - 16) + p2) < 0 ∨ 48 ≤ (((16 * p1) - 16) + p2).toNatClampNeg then none else
if (x (((16 * p1) - 16) + p2).toNatClampNeg) < 0 then (
f_L_reason_j205 x y p1 p2 p3 ())
else (
if 2 ≤ p3 then (
f_L_reason_j205 x y p1 p2 p3 ())
else (
if (((16 * p1) - 16) + p2) < 0 ∨ 32 ≤ (((16 * p1) - 16) + p2).toNatClampNeg then none else
if ((y (((16 * p1) - 16) + p2).toNatClampNeg) - (y (((16 * p1) - 16) + p2).toNatClampNeg) / 2 * 2) = 0 then (
f_L_reason_j206 x y p1 p2 p3 1)
else (
f_L_reason_j205 x y p1 p2 p3 ()))))
else (
f_L_reason_j205 x y p1 p2 p3 ()))
def f_L_reason_j110 (x : TV48s) (y : TV32s) (p1 : Int32) (p2 : Int32) (p3 : Int32) (v46 : Int32 × Int32) (w110 : Unit) : Option (Int32) :=
if v46.1 < 0 then (
f_L_reason_j143 x y p1 p2 p3 ())
else (
if v46.1 < (p2 - 4) then (
f_L_reason_j143 x y p1 p2 p3 ())
else (
if ((16 * p1) + v46.1) < 0 ∨ 48 ≤ ((16 * p1) + v46.1).toNatClampNeg then none else
if (x ((16 * p1) + v46.1).toNatClampNeg) = 1 then (
f_L_reason_j143 x y p1 p2 p3 ())
else (
if p3 = 0 then (
f_L_reason_j143 x y p1 p2 p3 ())
else (
some 1))))
def f_L_reason_l46 (x : TV48s) (y : TV32s) (p1 : Int32) (p2 : Int32) (p3 : Int32) (v10 : Int32 × Int32) (k46 : (Int32 × Int32) → Option (Int32)) (v46 : Int32 × Int32) : Option (Int32) :=
if p2 ≤ v46.2 then (
if v10.1 < 0 then (
f_L_reason_j110 x y p1 p2 p3 v46 ())
else (
if (p2 + 4) < v10.1 then (
f_L_reason_j110 x y p1 p2 p3 v46 ())
else (
if p3 = 1 then (
f_L_reason_j110 x y p1 p2 p3 v46 ())
else (
if ((16 * p1) + v10.1) < 0 ∨ 48 ≤ ((16 * p1) + v10.1).toNatClampNeg then none else
if (x ((16 * p1) + v10.1).toNatClampNeg) = 0 then (
f_L_reason_j110 x y p1 p2 p3 v46 ())
else (
some 1)))))
else (
if ((16 * p1) + v46.2) < 0 ∨ 48 ≤ ((16 * p1) + v46.2).toNatClampNeg then none else
if (x ((16 * p1) + v46.2).toNatClampNeg) < 0 then (
k46 (v46.1, (v46.2 + 1)))
else (
k46 (v46.2, (v46.2 + 1))))
def f_L_reason_l10 (x : TV48s) (y : TV32s) (p1 : Int32) (p2 : Int32) (p3 : Int32) (k10 : (Int32 × Int32) → Option (Int32)) (v10 : Int32 × Int32) : Option (Int32) :=
if v10.2 ≤ p2 then (
lpN (f_L_reason_l46 x y p1 p2 p3 v10) 3000 ((-1), 0))
else (
if ((16 * p1) + v10.2) < 0 ∨ 48 ≤ ((16 * p1) + v10.2).toNatClampNeg then none else
if (x ((16 * p1) + v10.2).toNatClampNeg) < 0 then (
k10 (v10.1, (v10.2 + (-1))))
else (
k10 (v10.2, (v10.2 + (-1)))))
def f_L_reason (x : TV48s) (y : TV32s) (p1 : Int32) (p2 : Int32) (p3 : Int32) : Option (Int32) :=
lpN (f_L_reason_l10 x y p1 p2 p3) 3000 ((-1), 15)
theorem wo_L_reason : wordsOk yL_reason 5 := by decide +kernel
set_option maxHeartbeats 4000000 in
set_option maxRecDepth 100000 in
theorem c_L_reason (l : Launch) (g : GG) (A : Nat → Nat) (b : Nat) (A2 : Nat → Nat) (b2 : Nat) (x : TV48s) (y : TV32s) (p1 : Int32) (p2 : Int32) (p3 : Int32) (r : Int32) (h : f_L_reason x y p1 p2 p3 = some r) : CI l yL_reason wsL_reason 0 0 g [.ref (A b), .ref (A2 b2), .int p1, .int p2, .int p3] (wV48 g A b x ++ wV32 g A2 b2 y) r (wV48 g A b x ++ wV32 g A2 b2 y) := by
  refine CI.mk (own := RL) (by decide) rfl rfl (Nat.le_of_ble_eq_true rfl) ?_
  intro p e R s m args below meth c Z Q C E hR H hW ls hl
  have hx := C.1.1
  have hb := C.1.2.1
  have hown := C.1.2.2.2.1
  replace hW : WdG g Z s.heap H [] [[(A b, .inl (gI g, 48, .inl x))], [(A2 b2, .inl (gI g, 32, .inl y))]] := hW.re rfl
  replace hl : lv_has ls 9 [(0, .ref (A b)), (1, .ref (A2 b2)), (2, .int p1), (3, .int p2), (4, .int p3)] := hl
  unfold f_L_reason at h
  refine lv_iconst (v := (-1)) hx hb dL_reason_0 (by decide) ?_
  refine lv_istore (lv' := [(5, .int (-1)), (0, .ref (A b)), (1, .ref (A2 b2)), (2, .int p1), (3, .int p2), (4, .int p3)]) hx hb dL_reason_1 hl (by decide) rfl (fun ls hl => ?_)
  refine lv_iconst (v := (-1)) hx hb dL_reason_3 (by decide) ?_
  refine lv_istore (lv' := [(6, .int (-1)), (5, .int (-1)), (0, .ref (A b)), (1, .ref (A2 b2)), (2, .int p1), (3, .int p2), (4, .int p3)]) hx hb dL_reason_4 hl (by decide) rfl (fun ls hl => ?_)
  refine lv_bipush (v := 15) hx hb dL_reason_6 (by decide) ?_
  refine lv_istore (lv' := [(7, .int 15), (6, .int (-1)), (5, .int (-1)), (0, .ref (A b)), (1, .ref (A2 b2)), (2, .int p1), (3, .int p2), (4, .int p3)]) hx hb dL_reason_8 hl (by decide) rfl (fun ls hl => ?_)
  have L10 : ∀ n10 : Nat, ∀ (v10 : Int32 × Int32), lpN (f_L_reason_l10 x y p1 p2 p3) n10 v10 = some r → ∀ (H : Heap) (locs : List Loc), WdG g Z s.heap H locs [[(A b, .inl (gI g, 48, .inl x))], [(A2 b2, .inl (gI g, 32, .inl y))]] → ∀ ls : Array Slot, lv_has ls 9 [(0, .ref (A b)), (1, .ref (A2 b2)), (2, .int p1), (3, .int p2), (4, .int p3), (5, .int v10.1), (6, .int (-1)), (7, .int v10.2)] → W p l e R s m args below meth c H locs 0 0 Q (F0 m 10 ls []) := by
    intro n10
    induction n10 with
    | zero => intro v10 h; exact absurd (show none = some r from h) (fun h => by cases h)
    | succ n10 ih10 =>
      intro v10 h H locs hW ls hl
      replace h : f_L_reason_l10 x y p1 p2 p3 (lpN (f_L_reason_l10 x y p1 p2 p3) n10) v10 = some r := h
      unfold f_L_reason_l10 at h
      refine lv_iload hx hb dL_reason_10 (lv_at hl 7 rfl) ?_
      refine lv_iload_n hx hb dL_reason_12 rfl (lv_at hl 3 rfl) ?_
      refine lv_icmp_le (tgt := 43) hx hb dL_reason_13 (by decide) (fun e1 => ?_) (fun e1 => ?_)
      · replace h := q_t e1 h
        refine lv_iconst (v := 0) hx hb dL_reason_43 (by decide) ?_
        refine lv_istore (lv' := [(7, .int 0), (0, .ref (A b)), (1, .ref (A2 b2)), (2, .int p1), (3, .int p2), (4, .int p3), (5, .int v10.1), (6, .int (-1))]) hx hb dL_reason_44 hl (by decide) rfl (fun ls hl => ?_)
        have L46 : ∀ n46 : Nat, ∀ (v46 : Int32 × Int32), lpN (f_L_reason_l46 x y p1 p2 p3 v10) n46 v46 = some r → ∀ (H : Heap) (locs : List Loc), WdG g Z s.heap H locs [[(A b, .inl (gI g, 48, .inl x))], [(A2 b2, .inl (gI g, 32, .inl y))]] → ∀ ls : Array Slot, lv_has ls 9 [(0, .ref (A b)), (1, .ref (A2 b2)), (2, .int p1), (3, .int p2), (4, .int p3), (5, .int v10.1), (6, .int v46.1), (7, .int v46.2)] → W p l e R s m args below meth c H locs 0 0 Q (F0 m 46 ls []) := by
          intro n46
          induction n46 with
          | zero => intro v46 h; exact absurd (show none = some r from h) (fun h => by cases h)
          | succ n46 ih46 =>
            intro v46 h H locs hW ls hl
            replace h : f_L_reason_l46 x y p1 p2 p3 v10 (lpN (f_L_reason_l46 x y p1 p2 p3 v10) n46) v46 = some r := h
            unfold f_L_reason_l46 at h
            refine lv_iload hx hb dL_reason_46 (lv_at hl 7 rfl) ?_
            refine lv_iload_n hx hb dL_reason_48 rfl (lv_at hl 3 rfl) ?_
            refine lv_icmp_ge (tgt := 79) hx hb dL_reason_49 (by decide) (fun e2 => ?_) (fun e2 => ?_)
            · replace h := q_t e2 h
              refine lv_iload hx hb dL_reason_79 (lv_at hl 5 rfl) ?_
              have J110 : ∀ (w110 : Unit), f_L_reason_j110 x y p1 p2 p3 v46 w110 = some r → ∀ (H : Heap) (locs : List Loc), WdG g Z s.heap H locs [[(A b, .inl (gI g, 48, .inl x))], [(A2 b2, .inl (gI g, 32, .inl y))]] → ∀ ls : Array Slot, lv_has ls 9 [(0, .ref (A b)), (1, .ref (A2 b2)), (2, .int p1), (3, .int p2), (4, .int p3), (6, .int v46.1)] → W p l e R s m args below meth c H locs 0 0 Q (F0 m 110 ls []) := by
                intro w110 h H locs hW ls hl
                unfold f_L_reason_j110 at h
                refine lv_iload hx hb dL_reason_110 (lv_at hl 5 rfl) ?_
                have J143 : ∀ (w143 : Unit), f_L_reason_j143 x y p1 p2 p3 w143 = some r → ∀ (H : Heap) (locs : List Loc), WdG g Z s.heap H locs [[(A b, .inl (gI g, 48, .inl x))], [(A2 b2, .inl (gI g, 32, .inl y))]] → ∀ ls : Array Slot, lv_has ls 9 [(0, .ref (A b)), (1, .ref (A2 b2)), (2, .int p1), (3, .int p2), (4, .int p3)] → W p l e R s m args below meth c H locs 0 0 Q (F0 m 143 ls []) := by
                  intro w143 h H locs hW ls hl
                  unfold f_L_reason_j143 at h
                  refine lv_iload_n hx hb dL_reason_143 rfl (lv_at hl 2 rfl) ?_
                  have J206 : ∀ (w206 : Int32), f_L_reason_j206 x y p1 p2 p3 w206 = some r → ∀ (H : Heap) (locs : List Loc), WdG g Z s.heap H locs [[(A b, .inl (gI g, 48, .inl x))], [(A2 b2, .inl (gI g, 32, .inl y))]] → ∀ ls : Array Slot, lv_has ls 9 [(0, .ref (A b)), (1, .ref (A2 b2)), (2, .int p1), (3, .int p2), (4, .int p3)] → W p l e R s m args below meth c H locs 0 0 Q (F0 m 206 ls [.int w206]) := by
                    intro w206 h H locs hW ls hl
                    unfold f_L_reason_j206 at h
                    refine lv_istore (lv' := [(7, .int w206), (0, .ref (A b)), (1, .ref (A2 b2)), (2, .int p1), (3, .int p2), (4, .int p3)]) hx hb dL_reason_206 hl (by decide) rfl (fun ls hl => ?_)
                    refine lv_iload_n hx hb dL_reason_208 rfl (lv_at hl 3 rfl) ?_
                    refine lv_iconst (v := 2) hx hb dL_reason_209 (by decide) ?_
                    have J269 : ∀ (w269 : Int32), f_L_reason_j269 w206 w269 = some r → ∀ (H : Heap) (locs : List Loc), WdG g Z s.heap H locs [[(A b, .inl (gI g, 48, .inl x))], [(A2 b2, .inl (gI g, 32, .inl y))]] → ∀ ls : Array Slot, lv_has ls 9 [(7, .int w206)] → W p l e R s m args below meth c H locs 0 0 Q (F0 m 269 ls [.int w269]) := by
                      intro w269 h H locs hW ls hl
                      unfold f_L_reason_j269 at h
                      refine lv_istore (lv' := [(8, .int w269), (7, .int w206)]) hx hb dL_reason_269 hl (by decide) rfl (fun ls hl => ?_)
                      refine lv_iload hx hb dL_reason_271 (lv_at hl 1 rfl) ?_
                      refine lv_if_ne (tgt := 281) hx hb dL_reason_273 (by decide) (fun e3 => ?_) (fun e3 => ?_)
                      · replace h := q_f e3 h
                        refine lv_iconst (v := 2) hx hb dL_reason_281 (by decide) ?_
                        refine lv_goto (tgt := 286) hx hb dL_reason_282 (by decide) ?_
                        cases h
                        exact E _ _ _ _ _ hW rfl rfl dL_reason_286
                      · replace h := q_t e3 h
                        refine lv_iload hx hb dL_reason_276 (lv_at hl 0 rfl) ?_
                        refine lv_if_eq (tgt := 285) hx hb dL_reason_278 (by decide) (fun e4 => ?_) (fun e4 => ?_)
                        · replace h := q_t e4 h
                          refine lv_iconst (v := 0) hx hb dL_reason_285 (by decide) ?_
                          cases h
                          exact E _ _ _ _ _ hW rfl rfl dL_reason_286
                        · replace h := q_f e4 h
                          refine lv_iconst (v := 2) hx hb dL_reason_281 (by decide) ?_
                          refine lv_goto (tgt := 286) hx hb dL_reason_282 (by decide) ?_
                          cases h
                          exact E _ _ _ _ _ hW rfl rfl dL_reason_286
                    have J268 : ∀ (w268 : Unit), f_L_reason_j268 w206 w268 = some r → ∀ (H : Heap) (locs : List Loc), WdG g Z s.heap H locs [[(A b, .inl (gI g, 48, .inl x))], [(A2 b2, .inl (gI g, 32, .inl y))]] → ∀ ls : Array Slot, lv_has ls 9 [(7, .int w206)] → W p l e R s m args below meth c H locs 0 0 Q (F0 m 268 ls []) := by
                      intro w268 h H locs hW ls hl
                      unfold f_L_reason_j268 at h
                      refine lv_iconst (v := 0) hx hb dL_reason_268 (by decide) ?_
                      exact J269 0 h _ _ hW _ (lv_sub hl [0] rfl)
                    refine lv_icmp_ge (tgt := 268) hx hb dL_reason_210 (by decide) (fun e5 => ?_) (fun e5 => ?_)
                    · replace h := q_t e5 h
                      exact J268 () h _ _ hW _ (lv_sub hl [0] rfl)
                    · replace h := q_f e5 h
                      refine lv_aload_n hx hb dL_reason_213 rfl (lv_at hl 1 rfl) ?_
                      refine lv_bipush (v := 16) hx hb dL_reason_214 (by decide) ?_
                      refine lv_iload_n hx hb dL_reason_216 rfl (lv_at hl 3 rfl) ?_
                      refine lv_imul hx hb dL_reason_217 ?_
                      refine lv_bipush (v := 16) hx hb dL_reason_218 (by decide) ?_
                      refine lv_iadd hx hb dL_reason_220 ?_
                      refine lv_iload_n hx hb dL_reason_221 rfl (lv_at hl 4 rfl) ?_
                      refine lv_iadd hx hb dL_reason_222 ?_
                      obtain ⟨g6, h⟩ := q_g h
                      refine r_iald C hW 0 0 rfl rfl g6 dL_reason_223 ?_
                      refine lv_iload hx hb dL_reason_224 (lv_at hl 5 rfl) ?_
                      refine lv_iadd hx hb dL_reason_226 ?_
                      refine lv_iconst (v := 1) hx hb dL_reason_227 (by decide) ?_
                      refine lv_icmp_ne (tgt := 268) hx hb dL_reason_228 (by decide) (fun e7 => ?_) (fun e7 => ?_)
                      · replace h := q_f e7 h
                        exact J268 () h _ _ hW _ (lv_sub hl [0] rfl)
                      · replace h := q_t e7 h
                        refine lv_aload_n hx hb dL_reason_231 rfl (lv_at hl 1 rfl) ?_
                        refine lv_bipush (v := 16) hx hb dL_reason_232 (by decide) ?_
                        refine lv_iload_n hx hb dL_reason_234 rfl (lv_at hl 3 rfl) ?_
                        refine lv_imul hx hb dL_reason_235 ?_
                        refine lv_bipush (v := 16) hx hb dL_reason_236 (by decide) ?_
                        refine lv_iadd hx hb dL_reason_238 ?_
                        refine lv_iload_n hx hb dL_reason_239 rfl (lv_at hl 4 rfl) ?_
                        refine lv_iadd hx hb dL_reason_240 ?_
                        obtain ⟨g8, h⟩ := q_g h
                        refine r_iald C hW 0 0 rfl rfl g8 dL_reason_241 ?_
                        refine lv_if_lt (tgt := 268) hx hb dL_reason_242 (by decide) (fun e9 => ?_) (fun e9 => ?_)
                        · replace h := q_t e9 h
                          exact J268 () h _ _ hW _ (lv_sub hl [0] rfl)
                        · replace h := q_f e9 h
                          refine lv_iload hx hb dL_reason_245 (lv_at hl 5 rfl) ?_
                          refine lv_iconst (v := 2) hx hb dL_reason_247 (by decide) ?_
                          refine lv_icmp_ge (tgt := 268) hx hb dL_reason_248 (by decide) (fun e10 => ?_) (fun e10 => ?_)
                          · replace h := q_t e10 h
                            exact J268 () h _ _ hW _ (lv_sub hl [0] rfl)
                          · replace h := q_f e10 h
                            refine lv_aload_n hx hb dL_reason_251 rfl (lv_at hl 2 rfl) ?_
                            refine lv_bipush (v := 16) hx hb dL_reason_252 (by decide) ?_
                            refine lv_iload_n hx hb dL_reason_254 rfl (lv_at hl 3 rfl) ?_
                            refine lv_imul hx hb dL_reason_255 ?_
                            refine lv_iload_n hx hb dL_reason_256 rfl (lv_at hl 4 rfl) ?_
                            refine lv_iadd hx hb dL_reason_257 ?_
                            obtain ⟨g11, h⟩ := q_g h
                            refine r_iald C hW 1 0 rfl rfl g11 dL_reason_258 ?_
                            refine lv_iconst (v := 2) hx hb dL_reason_259 (by decide) ?_
                            have g12 : ¬ (2 : Int32) = 0 := by decide
                            refine lv_irem hx hb dL_reason_260 g12 ?_
                            refine lv_if_ne (tgt := 268) hx hb dL_reason_261 (by decide) (fun e13 => ?_) (fun e13 => ?_)
                            · replace h := q_f e13 h
                              exact J268 () h _ _ hW _ (lv_sub hl [0] rfl)
                            · replace h := q_t e13 h
                              refine lv_iconst (v := 1) hx hb dL_reason_264 (by decide) ?_
                              refine lv_goto (tgt := 269) hx hb dL_reason_265 (by decide) ?_
                              exact J269 1 h _ _ hW _ (lv_sub hl [0] rfl)
                  have J205 : ∀ (w205 : Unit), f_L_reason_j205 x y p1 p2 p3 w205 = some r → ∀ (H : Heap) (locs : List Loc), WdG g Z s.heap H locs [[(A b, .inl (gI g, 48, .inl x))], [(A2 b2, .inl (gI g, 32, .inl y))]] → ∀ ls : Array Slot, lv_has ls 9 [(0, .ref (A b)), (1, .ref (A2 b2)), (2, .int p1), (3, .int p2), (4, .int p3)] → W p l e R s m args below meth c H locs 0 0 Q (F0 m 205 ls []) := by
                    intro w205 h H locs hW ls hl
                    unfold f_L_reason_j205 at h
                    refine lv_iconst (v := 0) hx hb dL_reason_205 (by decide) ?_
                    exact J206 0 h _ _ hW _ (lv_sub hl [0, 1, 2, 3, 4] rfl)
                  refine lv_if_le (tgt := 205) hx hb dL_reason_144 (by decide) (fun e14 => ?_) (fun e14 => ?_)
                  · replace h := q_t e14 h
                    exact J205 () h _ _ hW _ (lv_sub hl [0, 1, 2, 3, 4] rfl)
                  · replace h := q_f e14 h
                    refine lv_aload_n hx hb dL_reason_147 rfl (lv_at hl 0 rfl) ?_
                    refine lv_bipush (v := 16) hx hb dL_reason_148 (by decide) ?_
                    refine lv_iload_n hx hb dL_reason_150 rfl (lv_at hl 2 rfl) ?_
                    refine lv_imul hx hb dL_reason_151 ?_
                    refine lv_bipush (v := 16) hx hb dL_reason_152 (by decide) ?_
                    refine lv_isub hx hb dL_reason_154 ?_
                    refine lv_iload_n hx hb dL_reason_155 rfl (lv_at hl 3 rfl) ?_
                    refine lv_iadd hx hb dL_reason_156 ?_
                    obtain ⟨g15, h⟩ := q_g h
                    refine r_iald C hW 0 0 rfl rfl g15 dL_reason_157 ?_
                    refine lv_iload hx hb dL_reason_158 (lv_at hl 4 rfl) ?_
                    refine lv_iadd hx hb dL_reason_160 ?_
                    refine lv_iconst (v := 1) hx hb dL_reason_161 (by decide) ?_
                    refine lv_icmp_ne (tgt := 205) hx hb dL_reason_162 (by decide) (fun e16 => ?_) (fun e16 => ?_)
                    · replace h := q_f e16 h
                      exact J205 () h _ _ hW _ (lv_sub hl [0, 1, 2, 3, 4] rfl)
                    · replace h := q_t e16 h
                      refine lv_aload_n hx hb dL_reason_165 rfl (lv_at hl 0 rfl) ?_
                      refine lv_bipush (v := 16) hx hb dL_reason_166 (by decide) ?_
                      refine lv_iload_n hx hb dL_reason_168 rfl (lv_at hl 2 rfl) ?_
                      refine lv_imul hx hb dL_reason_169 ?_
                      refine lv_bipush (v := 16) hx hb dL_reason_170 (by decide) ?_
                      refine lv_isub hx hb dL_reason_172 ?_
                      refine lv_iload_n hx hb dL_reason_173 rfl (lv_at hl 3 rfl) ?_
                      refine lv_iadd hx hb dL_reason_174 ?_
                      obtain ⟨g17, h⟩ := q_g h
                      refine r_iald C hW 0 0 rfl rfl g17 dL_reason_175 ?_
                      refine lv_if_lt (tgt := 205) hx hb dL_reason_176 (by decide) (fun e18 => ?_) (fun e18 => ?_)
                      · replace h := q_t e18 h
                        exact J205 () h _ _ hW _ (lv_sub hl [0, 1, 2, 3, 4] rfl)
                      · replace h := q_f e18 h
                        refine lv_iload hx hb dL_reason_179 (lv_at hl 4 rfl) ?_
                        refine lv_iconst (v := 2) hx hb dL_reason_181 (by decide) ?_
                        refine lv_icmp_ge (tgt := 205) hx hb dL_reason_182 (by decide) (fun e19 => ?_) (fun e19 => ?_)
                        · replace h := q_t e19 h
                          exact J205 () h _ _ hW _ (lv_sub hl [0, 1, 2, 3, 4] rfl)
                        · replace h := q_f e19 h
                          refine lv_aload_n hx hb dL_reason_185 rfl (lv_at hl 1 rfl) ?_
                          refine lv_bipush (v := 16) hx hb dL_reason_186 (by decide) ?_
                          refine lv_iload_n hx hb dL_reason_188 rfl (lv_at hl 2 rfl) ?_
                          refine lv_imul hx hb dL_reason_189 ?_
                          refine lv_bipush (v := 16) hx hb dL_reason_190 (by decide) ?_
                          refine lv_isub hx hb dL_reason_192 ?_
                          refine lv_iload_n hx hb dL_reason_193 rfl (lv_at hl 3 rfl) ?_
                          refine lv_iadd hx hb dL_reason_194 ?_
                          obtain ⟨g20, h⟩ := q_g h
                          refine r_iald C hW 1 0 rfl rfl g20 dL_reason_195 ?_
                          refine lv_iconst (v := 2) hx hb dL_reason_196 (by decide) ?_
                          have g21 : ¬ (2 : Int32) = 0 := by decide
                          refine lv_irem hx hb dL_reason_197 g21 ?_
                          refine lv_if_ne (tgt := 205) hx hb dL_reason_198 (by decide) (fun e22 => ?_) (fun e22 => ?_)
                          · replace h := q_f e22 h
                            exact J205 () h _ _ hW _ (lv_sub hl [0, 1, 2, 3, 4] rfl)
                          · replace h := q_t e22 h
                            refine lv_iconst (v := 1) hx hb dL_reason_201 (by decide) ?_
                            refine lv_goto (tgt := 206) hx hb dL_reason_202 (by decide) ?_
                            exact J206 1 h _ _ hW _ (lv_sub hl [0, 1, 2, 3, 4] rfl)
                refine lv_if_lt (tgt := 143) hx hb dL_reason_112 (by decide) (fun e23 => ?_) (fun e23 => ?_)
                · replace h := q_t e23 h
                  exact J143 () h _ _ hW _ (lv_sub hl [0, 1, 2, 3, 4] rfl)
                · replace h := q_f e23 h
                  refine lv_iload hx hb dL_reason_115 (lv_at hl 5 rfl) ?_
                  refine lv_iload_n hx hb dL_reason_117 rfl (lv_at hl 3 rfl) ?_
                  refine lv_iconst (v := 4) hx hb dL_reason_118 (by decide) ?_
                  refine lv_isub hx hb dL_reason_119 ?_
                  refine lv_icmp_lt (tgt := 143) hx hb dL_reason_120 (by decide) (fun e24 => ?_) (fun e24 => ?_)
                  · replace h := q_t e24 h
                    exact J143 () h _ _ hW _ (lv_sub hl [0, 1, 2, 3, 4] rfl)
                  · replace h := q_f e24 h
                    refine lv_aload_n hx hb dL_reason_123 rfl (lv_at hl 0 rfl) ?_
                    refine lv_bipush (v := 16) hx hb dL_reason_124 (by decide) ?_
                    refine lv_iload_n hx hb dL_reason_126 rfl (lv_at hl 2 rfl) ?_
                    refine lv_imul hx hb dL_reason_127 ?_
                    refine lv_iload hx hb dL_reason_128 (lv_at hl 5 rfl) ?_
                    refine lv_iadd hx hb dL_reason_130 ?_
                    obtain ⟨g25, h⟩ := q_g h
                    refine r_iald C hW 0 0 rfl rfl g25 dL_reason_131 ?_
                    refine lv_iconst (v := 1) hx hb dL_reason_132 (by decide) ?_
                    refine lv_icmp_eq (tgt := 143) hx hb dL_reason_133 (by decide) (fun e26 => ?_) (fun e26 => ?_)
                    · replace h := q_t e26 h
                      exact J143 () h _ _ hW _ (lv_sub hl [0, 1, 2, 3, 4] rfl)
                    · replace h := q_f e26 h
                      refine lv_iload hx hb dL_reason_136 (lv_at hl 4 rfl) ?_
                      refine lv_if_eq (tgt := 143) hx hb dL_reason_138 (by decide) (fun e27 => ?_) (fun e27 => ?_)
                      · replace h := q_t e27 h
                        exact J143 () h _ _ hW _ (lv_sub hl [0, 1, 2, 3, 4] rfl)
                      · replace h := q_f e27 h
                        refine lv_iconst (v := 1) hx hb dL_reason_141 (by decide) ?_
                        cases h
                        exact E _ _ _ _ _ hW rfl rfl dL_reason_142
              refine lv_if_lt (tgt := 110) hx hb dL_reason_81 (by decide) (fun e28 => ?_) (fun e28 => ?_)
              · replace h := q_t e28 h
                exact J110 () h _ _ hW _ (lv_sub hl [0, 1, 2, 3, 4, 6] rfl)
              · replace h := q_f e28 h
                refine lv_iload hx hb dL_reason_84 (lv_at hl 5 rfl) ?_
                refine lv_iload_n hx hb dL_reason_86 rfl (lv_at hl 3 rfl) ?_
                refine lv_iconst (v := 4) hx hb dL_reason_87 (by decide) ?_
                refine lv_iadd hx hb dL_reason_88 ?_
                refine lv_icmp_gt (tgt := 110) hx hb dL_reason_89 (by decide) (fun e29 => ?_) (fun e29 => ?_)
                · replace h := q_t e29 h
                  exact J110 () h _ _ hW _ (lv_sub hl [0, 1, 2, 3, 4, 6] rfl)
                · replace h := q_f e29 h
                  refine lv_iload hx hb dL_reason_92 (lv_at hl 4 rfl) ?_
                  refine lv_iconst (v := 1) hx hb dL_reason_94 (by decide) ?_
                  refine lv_icmp_eq (tgt := 110) hx hb dL_reason_95 (by decide) (fun e30 => ?_) (fun e30 => ?_)
                  · replace h := q_t e30 h
                    exact J110 () h _ _ hW _ (lv_sub hl [0, 1, 2, 3, 4, 6] rfl)
                  · replace h := q_f e30 h
                    refine lv_aload_n hx hb dL_reason_98 rfl (lv_at hl 0 rfl) ?_
                    refine lv_bipush (v := 16) hx hb dL_reason_99 (by decide) ?_
                    refine lv_iload_n hx hb dL_reason_101 rfl (lv_at hl 2 rfl) ?_
                    refine lv_imul hx hb dL_reason_102 ?_
                    refine lv_iload hx hb dL_reason_103 (lv_at hl 5 rfl) ?_
                    refine lv_iadd hx hb dL_reason_105 ?_
                    obtain ⟨g31, h⟩ := q_g h
                    refine r_iald C hW 0 0 rfl rfl g31 dL_reason_106 ?_
                    refine lv_if_ne (tgt := 141) hx hb dL_reason_107 (by decide) (fun e32 => ?_) (fun e32 => ?_)
                    · replace h := q_f e32 h
                      refine lv_iconst (v := 1) hx hb dL_reason_141 (by decide) ?_
                      cases h
                      exact E _ _ _ _ _ hW rfl rfl dL_reason_142
                    · replace h := q_t e32 h
                      exact J110 () h _ _ hW _ (lv_sub hl [0, 1, 2, 3, 4, 6] rfl)
            · replace h := q_f e2 h
              refine lv_aload_n hx hb dL_reason_52 rfl (lv_at hl 0 rfl) ?_
              refine lv_bipush (v := 16) hx hb dL_reason_53 (by decide) ?_
              refine lv_iload_n hx hb dL_reason_55 rfl (lv_at hl 2 rfl) ?_
              refine lv_imul hx hb dL_reason_56 ?_
              refine lv_iload hx hb dL_reason_57 (lv_at hl 7 rfl) ?_
              refine lv_iadd hx hb dL_reason_59 ?_
              obtain ⟨g33, h⟩ := q_g h
              refine r_iald C hW 0 0 rfl rfl g33 dL_reason_60 ?_
              refine lv_if_lt (tgt := 69) hx hb dL_reason_61 (by decide) (fun e34 => ?_) (fun e34 => ?_)
              · replace h := q_t e34 h
                refine lv_iload hx hb dL_reason_69 (lv_at hl 6 rfl) ?_
                refine lv_istore (lv' := [(6, .int v46.1), (0, .ref (A b)), (1, .ref (A2 b2)), (2, .int p1), (3, .int p2), (4, .int p3), (5, .int v10.1), (7, .int v46.2)]) hx hb dL_reason_71 hl (by decide) rfl (fun ls hl => ?_)
                refine lv_iinc (v := (v46.2 + 1)) (lv' := [(7, .int (v46.2 + 1)), (6, .int v46.1), (0, .ref (A b)), (1, .ref (A2 b2)), (2, .int p1), (3, .int p2), (4, .int p3), (5, .int v10.1)]) hx hb dL_reason_73 hl (k := 7) rfl rfl (by decide) rfl (fun ls hl => ?_)
                refine lv_goto (tgt := 46) hx hb dL_reason_76 (by decide) ?_
                exact ih46 (v46.1, (v46.2 + 1)) h _ _ hW _ (lv_sub hl [2, 3, 4, 5, 6, 7, 1, 0] rfl)
              · replace h := q_f e34 h
                refine lv_iload hx hb dL_reason_64 (lv_at hl 7 rfl) ?_
                refine lv_goto (tgt := 71) hx hb dL_reason_66 (by decide) ?_
                refine lv_istore (lv' := [(6, .int v46.2), (0, .ref (A b)), (1, .ref (A2 b2)), (2, .int p1), (3, .int p2), (4, .int p3), (5, .int v10.1), (7, .int v46.2)]) hx hb dL_reason_71 hl (by decide) rfl (fun ls hl => ?_)
                refine lv_iinc (v := (v46.2 + 1)) (lv' := [(7, .int (v46.2 + 1)), (6, .int v46.2), (0, .ref (A b)), (1, .ref (A2 b2)), (2, .int p1), (3, .int p2), (4, .int p3), (5, .int v10.1)]) hx hb dL_reason_73 hl (k := 7) rfl rfl (by decide) rfl (fun ls hl => ?_)
                refine lv_goto (tgt := 46) hx hb dL_reason_76 (by decide) ?_
                exact ih46 (v46.2, (v46.2 + 1)) h _ _ hW _ (lv_sub hl [2, 3, 4, 5, 6, 7, 1, 0] rfl)
        exact L46 3000 ((-1), 0) h _ _ hW _ (lv_sub hl [1, 2, 3, 4, 5, 6, 7, 0] rfl)
      · replace h := q_f e1 h
        refine lv_aload_n hx hb dL_reason_16 rfl (lv_at hl 0 rfl) ?_
        refine lv_bipush (v := 16) hx hb dL_reason_17 (by decide) ?_
        refine lv_iload_n hx hb dL_reason_19 rfl (lv_at hl 2 rfl) ?_
        refine lv_imul hx hb dL_reason_20 ?_
        refine lv_iload hx hb dL_reason_21 (lv_at hl 7 rfl) ?_
        refine lv_iadd hx hb dL_reason_23 ?_
        obtain ⟨g35, h⟩ := q_g h
        refine r_iald C hW 0 0 rfl rfl g35 dL_reason_24 ?_
        refine lv_if_lt (tgt := 33) hx hb dL_reason_25 (by decide) (fun e36 => ?_) (fun e36 => ?_)
        · replace h := q_t e36 h
          refine lv_iload hx hb dL_reason_33 (lv_at hl 5 rfl) ?_
          refine lv_istore (lv' := [(5, .int v10.1), (0, .ref (A b)), (1, .ref (A2 b2)), (2, .int p1), (3, .int p2), (4, .int p3), (6, .int (-1)), (7, .int v10.2)]) hx hb dL_reason_35 hl (by decide) rfl (fun ls hl => ?_)
          refine lv_iinc (v := (v10.2 + (-1))) (lv' := [(7, .int (v10.2 + (-1))), (5, .int v10.1), (0, .ref (A b)), (1, .ref (A2 b2)), (2, .int p1), (3, .int p2), (4, .int p3), (6, .int (-1))]) hx hb dL_reason_37 hl (k := 7) rfl rfl (by decide) rfl (fun ls hl => ?_)
          refine lv_goto (tgt := 10) hx hb dL_reason_40 (by decide) ?_
          exact ih10 (v10.1, (v10.2 + (-1))) h _ _ hW _ (lv_sub hl [2, 3, 4, 5, 6, 1, 7, 0] rfl)
        · replace h := q_f e36 h
          refine lv_iload hx hb dL_reason_28 (lv_at hl 7 rfl) ?_
          refine lv_goto (tgt := 35) hx hb dL_reason_30 (by decide) ?_
          refine lv_istore (lv' := [(5, .int v10.2), (0, .ref (A b)), (1, .ref (A2 b2)), (2, .int p1), (3, .int p2), (4, .int p3), (6, .int (-1)), (7, .int v10.2)]) hx hb dL_reason_35 hl (by decide) rfl (fun ls hl => ?_)
          refine lv_iinc (v := (v10.2 + (-1))) (lv' := [(7, .int (v10.2 + (-1))), (5, .int v10.2), (0, .ref (A b)), (1, .ref (A2 b2)), (2, .int p1), (3, .int p2), (4, .int p3), (6, .int (-1))]) hx hb dL_reason_37 hl (k := 7) rfl rfl (by decide) rfl (fun ls hl => ?_)
          refine lv_goto (tgt := 10) hx hb dL_reason_40 (by decide) ?_
          exact ih10 (v10.2, (v10.2 + (-1))) h _ _ hW _ (lv_sub hl [2, 3, 4, 5, 6, 1, 7, 0] rfl)
  exact L10 3000 ((-1), 15) h _ _ hW _ (lv_sub hl [3, 4, 5, 6, 7, 2, 1, 0] rfl)
