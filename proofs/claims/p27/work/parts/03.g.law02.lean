def f_L_weak (p1 : Int32) : Option (Int32) :=
if p1 ≤ 0 then (
some 0)
else (
if 60 ≤ p1 then (
some 0)
else (
some 1))
theorem wo_L_weak : wordsOk yL_weak 1 := by decide +kernel
set_option maxHeartbeats 4000000 in
set_option maxRecDepth 100000 in
theorem c_L_weak (l : Launch) (g : GG) (p1 : Int32) (r : Int32) (h : f_L_weak p1 = some r) : CI l yL_weak wsL_weak 0 0 g [.int p1] ([]) r ([]) := by
  refine CI.mk (own := RL) (by decide) rfl rfl (Nat.le_of_ble_eq_true rfl) ?_
  intro p e R s m args below meth c Z Q C E hR H hW ls hl
  have hx := C.1.1
  have hb := C.1.2.1
  have hown := C.1.2.2.2.1
  replace hW : WdG g Z s.heap H [] [] := hW.re rfl
  replace hl : lv_has ls 1 [(0, .int p1)] := hl
  unfold f_L_weak at h
  refine lv_iload_n hx hb dL_weak_0 rfl (lv_at hl 0 rfl) ?_
  refine lv_if_le (tgt := 14) hx hb dL_weak_1 (by decide) (fun e1 => ?_) (fun e1 => ?_)
  · replace h := q_t e1 h
    refine lv_iconst (v := 0) hx hb dL_weak_14 (by decide) ?_
    cases h
    exact E _ _ _ _ _ hW rfl rfl dL_weak_15
  · replace h := q_f e1 h
    refine lv_iload_n hx hb dL_weak_4 rfl (lv_at hl 0 rfl) ?_
    refine lv_bipush (v := 60) hx hb dL_weak_5 (by decide) ?_
    refine lv_icmp_ge (tgt := 14) hx hb dL_weak_7 (by decide) (fun e2 => ?_) (fun e2 => ?_)
    · replace h := q_t e2 h
      refine lv_iconst (v := 0) hx hb dL_weak_14 (by decide) ?_
      cases h
      exact E _ _ _ _ _ hW rfl rfl dL_weak_15
    · replace h := q_f e2 h
      refine lv_iconst (v := 1) hx hb dL_weak_10 (by decide) ?_
      refine lv_goto (tgt := 15) hx hb dL_weak_11 (by decide) ?_
      cases h
      exact E _ _ _ _ _ hW rfl rfl dL_weak_15
def f_L_night_j222 (v7 : Int32 × Int32 × TV48s × TV48s × TV32s × TV10s) (w222 : Unit) : Option (Int32 × TV48s × TV48s × TV32s × TV10s) :=
if (7 : Int32) < 0 ∨ 10 ≤ (7 : Int32).toNatClampNeg then none else
if (7 : Int32) < 0 ∨ 10 ≤ (7 : Int32).toNatClampNeg then none else
if (8 : Int32) < 0 ∨ 10 ≤ (8 : Int32).toNatClampNeg then none else
if (8 : Int32) < 0 ∨ 10 ≤ (8 : Int32).toNatClampNeg then none else
some (v7.1, v7.2.2.1, v7.2.2.2.1, v7.2.2.2.2.1, (upd (upd v7.2.2.2.2.2 (7 : Int32).toNatClampNeg ((v7.2.2.2.2.2 (7 : Int32).toNatClampNeg) + 1)) (8 : Int32).toNatClampNeg (((upd v7.2.2.2.2.2 (7 : Int32).toNatClampNeg ((v7.2.2.2.2.2 (7 : Int32).toNatClampNeg) + 1)) (8 : Int32).toNatClampNeg) + v7.1)))
def f_L_night_j186 (k34 : (Int32 × Int32 × TV48s × TV48s × TV32s × TV10s) → Option (Int32 × TV48s × TV48s × TV32s × TV10s)) (v34 : Int32 × Int32 × TV48s × TV48s × TV32s × TV10s) (w186 : TV48s × TV48s × TV32s × TV10s) : Option (Int32 × TV48s × TV48s × TV32s × TV10s) :=
if (5 : Int32) < 0 ∨ 10 ≤ (5 : Int32).toNatClampNeg then none else
if (5 : Int32) < 0 ∨ 10 ≤ (5 : Int32).toNatClampNeg then none else
k34 ((v34.1 + 1), (v34.2.1 + 1), w186.1, w186.2.1, w186.2.2.1, (upd w186.2.2.2 (5 : Int32).toNatClampNeg ((w186.2.2.2 (5 : Int32).toNatClampNeg) - 1)))
def f_L_night_j173 (k34 : (Int32 × Int32 × TV48s × TV48s × TV32s × TV10s) → Option (Int32 × TV48s × TV48s × TV32s × TV10s)) (v34 : Int32 × Int32 × TV48s × TV48s × TV32s × TV10s) (w72 : Int32) (w147 : Int32) (w173 : Int32) : Option (Int32 × TV48s × TV48s × TV32s × TV10s) :=
if w72 < 0 ∨ 48 ≤ (w72).toNatClampNeg then none else
if v34.2.1 ≤ 5 then (
f_L_night_j186 k34 v34 ((upd v34.2.2.1 (w72).toNatClampNeg w173), (upd v34.2.2.2.1 (w72).toNatClampNeg w147), v34.2.2.2.2.1, v34.2.2.2.2.2))
else (
if w72 < 0 ∨ 32 ≤ (w72).toNatClampNeg then none else
f_L_night_j186 k34 v34 ((upd v34.2.2.1 (w72).toNatClampNeg w173), (upd v34.2.2.2.1 (w72).toNatClampNeg w147), (upd v34.2.2.2.2.1 (w72).toNatClampNeg 100), v34.2.2.2.2.2))
def f_L_night_j169 (k34 : (Int32 × Int32 × TV48s × TV48s × TV32s × TV10s) → Option (Int32 × TV48s × TV48s × TV32s × TV10s)) (v34 : Int32 × Int32 × TV48s × TV48s × TV32s × TV10s) (w72 : Int32) (w147 : Int32) (w169 : Unit) : Option (Int32 × TV48s × TV48s × TV32s × TV10s) :=
if w72 < 0 ∨ 48 ≤ (w72).toNatClampNeg then none else
f_L_night_j173 k34 v34 w72 w147 (v34.2.2.1 (w72).toNatClampNeg)
def f_L_night_j147 (k34 : (Int32 × Int32 × TV48s × TV48s × TV32s × TV10s) → Option (Int32 × TV48s × TV48s × TV32s × TV10s)) (v34 : Int32 × Int32 × TV48s × TV48s × TV32s × TV10s) (w72 : Int32) (w147 : Int32) : Option (Int32 × TV48s × TV48s × TV32s × TV10s) :=
if w72 < 0 ∨ 48 ≤ (w72).toNatClampNeg then none else
if v34.2.1 < 3 then (
f_L_night_j169 k34 v34 w72 w147 ())
else (
if 6 ≤ v34.2.1 then (
f_L_night_j169 k34 v34 w72 w147 ())
else (
f_L_night_j173 k34 v34 w72 w147 100))
def f_L_night_j105 (k34 : (Int32 × Int32 × TV48s × TV48s × TV32s × TV10s) → Option (Int32 × TV48s × TV48s × TV32s × TV10s)) (v34 : Int32 × Int32 × TV48s × TV48s × TV32s × TV10s) (w72 : Int32) (w105 : Int32) : Option (Int32 × TV48s × TV48s × TV32s × TV10s) :=
(f_L_weak w105).bind fun t9 =>
if t9 = 0 then (
k34 (v34.1, (v34.2.1 + 1), v34.2.2.1, v34.2.2.2.1, v34.2.2.2.2.1, v34.2.2.2.2.2))
else (
if (5 : Int32) < 0 ∨ 10 ≤ (5 : Int32).toNatClampNeg then none else
if (v34.2.2.2.2.2 (5 : Int32).toNatClampNeg) ≤ 0 then (
k34 (v34.1, (v34.2.1 + 1), v34.2.2.1, v34.2.2.2.1, v34.2.2.2.2.1, v34.2.2.2.2.2))
else (
if (1 : Int32) < 0 ∨ 10 ≤ (1 : Int32).toNatClampNeg then none else
if (v34.2.2.2.2.2 (1 : Int32).toNatClampNeg) ≤ v34.1 then (
k34 (v34.1, (v34.2.1 + 1), v34.2.2.1, v34.2.2.2.1, v34.2.2.2.2.1, v34.2.2.2.2.2))
else (
if 3 ≤ v34.2.1 then (
if w72 < 0 ∨ 48 ≤ (w72).toNatClampNeg then none else
f_L_night_j147 k34 v34 w72 (v34.2.2.2.1 (w72).toNatClampNeg))
else (
f_L_night_j147 k34 v34 w72 100))))
def f_L_night_j72 (k34 : (Int32 × Int32 × TV48s × TV48s × TV32s × TV10s) → Option (Int32 × TV48s × TV48s × TV32s × TV10s)) (v34 : Int32 × Int32 × TV48s × TV48s × TV32s × TV10s) (w72 : Int32) : Option (Int32 × TV48s × TV48s × TV32s × TV10s) :=
if 3 ≤ v34.2.1 then (
if 6 ≤ v34.2.1 then (
if w72 < 0 ∨ 32 ≤ (w72).toNatClampNeg then none else
f_L_night_j105 k34 v34 w72 (v34.2.2.2.2.1 (w72).toNatClampNeg))
else (
if w72 < 0 ∨ 48 ≤ (w72).toNatClampNeg then none else
f_L_night_j105 k34 v34 w72 (v34.2.2.1 (w72).toNatClampNeg)))
else (
if w72 < 0 ∨ 48 ≤ (w72).toNatClampNeg then none else
f_L_night_j105 k34 v34 w72 (v34.2.2.2.1 (w72).toNatClampNeg))
def f_L_night_l34 (p1 : Int32) (p2 : Int32) (k7 : (Int32 × Int32 × TV48s × TV48s × TV32s × TV10s) → Option (Int32 × TV48s × TV48s × TV32s × TV10s)) (v7 : Int32 × Int32 × TV48s × TV48s × TV32s × TV10s) (k34 : (Int32 × Int32 × TV48s × TV48s × TV32s × TV10s) → Option (Int32 × TV48s × TV48s × TV32s × TV10s)) (v34 : Int32 × Int32 × TV48s × TV48s × TV32s × TV10s) : Option (Int32 × TV48s × TV48s × TV32s × TV10s) :=
if 8 ≤ v34.2.1 then (
if p2 < p1 then (
k7 (v34.1, (v7.2.1 + (-1)), v34.2.2.1, v34.2.2.2.1, v34.2.2.2.2.1, v34.2.2.2.2.2))
else (
k7 (v34.1, (v7.2.1 + 1), v34.2.2.1, v34.2.2.2.1, v34.2.2.2.2.1, v34.2.2.2.2.2)))
else (
if 6 ≤ v34.2.1 then (
f_L_night_j72 k34 v34 ((16 * (v34.2.1 - 6)) + v7.2.1))
else (
f_L_night_j72 k34 v34 ((16 * (v34.2.1 - v34.2.1 / 3 * 3)) + v7.2.1)))
def f_L_night_j31 (p1 : Int32) (p2 : Int32) (k7 : (Int32 × Int32 × TV48s × TV48s × TV32s × TV10s) → Option (Int32 × TV48s × TV48s × TV32s × TV10s)) (v7 : Int32 × Int32 × TV48s × TV48s × TV32s × TV10s) (w31 : Unit) : Option (Int32 × TV48s × TV48s × TV32s × TV10s) :=
lpN (f_L_night_l34 p1 p2 k7 v7) 3000 (v7.1, 0, v7.2.2.1, v7.2.2.2.1, v7.2.2.2.2.1, v7.2.2.2.2.2)
def f_L_night_l7 (p1 : Int32) (p2 : Int32) (k7 : (Int32 × Int32 × TV48s × TV48s × TV32s × TV10s) → Option (Int32 × TV48s × TV48s × TV32s × TV10s)) (v7 : Int32 × Int32 × TV48s × TV48s × TV32s × TV10s) : Option (Int32 × TV48s × TV48s × TV32s × TV10s) :=
if p2 < p1 then (
if v7.2.1 < p2 then (
f_L_night_j222 v7 ())
else (
f_L_night_j31 p1 p2 k7 v7 ()))
else (
if p2 < v7.2.1 then (
f_L_night_j222 v7 ())
else (
f_L_night_j31 p1 p2 k7 v7 ()))
def f_L_night (x : TV48s) (y : TV48s) (z3 : TV32s) (z4 : TV10s) (p1 : Int32) (p2 : Int32) : Option (Int32 × TV48s × TV48s × TV32s × TV10s) :=
lpN (f_L_night_l7 p1 p2) 3000 (0, p1, x, y, z3, z4)
theorem wo_L_night : wordsOk yL_night 6 := by decide +kernel
set_option maxHeartbeats 4000000 in
set_option maxRecDepth 100000 in
theorem c_L_night (l : Launch) (g : GG) (A : Nat → Nat) (b : Nat) (A2 : Nat → Nat) (b2 : Nat) (A3 : Nat → Nat) (b3 : Nat) (A4 : Nat → Nat) (b4 : Nat) (x : TV48s) (y : TV48s) (z3 : TV32s) (z4 : TV10s) (p1 : Int32) (p2 : Int32) (r : Int32) (x' : TV48s) (y' : TV48s) (z3' : TV32s) (z4' : TV10s) (h : f_L_night x y z3 z4 p1 p2 = some (r, x', y', z3', z4')) : CI l yL_night wsL_night 1 20 g [.ref (A b), .ref (A2 b2), .ref (A3 b3), .ref (A4 b4), .int p1, .int p2] (wV48 g A b x ++ wV48 g A2 b2 y ++ wV32 g A3 b3 z3 ++ wV10 g A4 b4 z4) r (wV48 g A b x' ++ wV48 g A2 b2 y' ++ wV32 g A3 b3 z3' ++ wV10 g A4 b4 z4') := by
  refine CI.mk (own := RL) (by decide) rfl rfl (Nat.le_of_ble_eq_true rfl) ?_
  intro p e R s m args below meth c Z Q C E hR H hW ls hl
  have hx := C.1.1
  have hb := C.1.2.1
  have hown := C.1.2.2.2.1
  replace hW : WdG g Z s.heap H [] [[(A b, .inl (gI g, 48, .inl x))], [(A2 b2, .inl (gI g, 48, .inl y))], [(A3 b3, .inl (gI g, 32, .inl z3))], [(A4 b4, .inl (gI g, 10, .inl z4))]] := hW.re rfl
  replace hl : lv_has ls 11 [(0, .ref (A b)), (1, .ref (A2 b2)), (2, .ref (A3 b3)), (3, .ref (A4 b4)), (4, .int p1), (5, .int p2)] := hl
  unfold f_L_night at h
  refine lv_iconst (v := 0) hx hb dL_night_0 (by decide) ?_
  refine lv_istore (lv' := [(6, .int 0), (0, .ref (A b)), (1, .ref (A2 b2)), (2, .ref (A3 b3)), (3, .ref (A4 b4)), (4, .int p1), (5, .int p2)]) hx hb dL_night_1 hl (by decide) rfl (fun ls hl => ?_)
  refine lv_iload hx hb dL_night_3 (lv_at hl 5 rfl) ?_
  refine lv_istore (lv' := [(7, .int p1), (6, .int 0), (0, .ref (A b)), (1, .ref (A2 b2)), (2, .ref (A3 b3)), (3, .ref (A4 b4)), (4, .int p1), (5, .int p2)]) hx hb dL_night_5 hl (by decide) rfl (fun ls hl => ?_)
  have L7 : ∀ n7 : Nat, ∀ (v7 : Int32 × Int32 × TV48s × TV48s × TV32s × TV10s), lpN (f_L_night_l7 p1 p2) n7 v7 = some (r, x', y', z3', z4') → ∀ (H : Heap) (locs : List Loc), WdG g Z s.heap H locs [[(A b, .inl (gI g, 48, .inl v7.2.2.1))], [(A2 b2, .inl (gI g, 48, .inl v7.2.2.2.1))], [(A3 b3, .inl (gI g, 32, .inl v7.2.2.2.2.1))], [(A4 b4, .inl (gI g, 10, .inl v7.2.2.2.2.2))]] → ∀ ls : Array Slot, lv_has ls 11 [(0, .ref (A b)), (1, .ref (A2 b2)), (2, .ref (A3 b3)), (3, .ref (A4 b4)), (4, .int p1), (5, .int p2), (6, .int v7.1), (7, .int v7.2.1)] → W p l e R s m args below meth c H locs 0 0 Q (F0 m 7 ls []) := by
    intro n7
    induction n7 with
    | zero => intro v7 h; exact absurd (show none = some (r, x', y', z3', z4') from h) (fun h => by cases h)
    | succ n7 ih7 =>
      intro v7 h H locs hW ls hl
      replace h : f_L_night_l7 p1 p2 (lpN (f_L_night_l7 p1 p2) n7) v7 = some (r, x', y', z3', z4') := h
      unfold f_L_night_l7 at h
      refine lv_iload hx hb dL_night_7 (lv_at hl 4 rfl) ?_
      refine lv_iload hx hb dL_night_9 (lv_at hl 5 rfl) ?_
      have J222 : ∀ (w222 : Unit), f_L_night_j222 v7 w222 = some (r, x', y', z3', z4') → ∀ (H : Heap) (locs : List Loc), WdG g Z s.heap H locs [[(A b, .inl (gI g, 48, .inl v7.2.2.1))], [(A2 b2, .inl (gI g, 48, .inl v7.2.2.2.1))], [(A3 b3, .inl (gI g, 32, .inl v7.2.2.2.2.1))], [(A4 b4, .inl (gI g, 10, .inl v7.2.2.2.2.2))]] → ∀ ls : Array Slot, lv_has ls 11 [(3, .ref (A4 b4)), (6, .int v7.1)] → W p l e R s m args below meth c H locs 0 0 Q (F0 m 222 ls []) := by
        intro w222 h H locs hW ls hl
        unfold f_L_night_j222 at h
        refine lv_aload_n hx hb dL_night_222 rfl (lv_at hl 0 rfl) ?_
        refine lv_bipush (v := 7) hx hb dL_night_223 (by decide) ?_
        refine lv_dup2_11 hx hb dL_night_225 rfl rfl ?_
        obtain ⟨g1, h⟩ := q_g h
        refine r_iald C hW 3 0 rfl rfl g1 dL_night_226 ?_
        refine lv_iconst (v := 1) hx hb dL_night_227 (by decide) ?_
        refine lv_iadd hx hb dL_night_228 ?_
        obtain ⟨g2, h⟩ := q_g h
        refine r_iast C hW (bs' := [[(A b, .inl (gI g, 48, .inl v7.2.2.1))], [(A2 b2, .inl (gI g, 48, .inl v7.2.2.2.1))], [(A3 b3, .inl (gI g, 32, .inl v7.2.2.2.2.1))], [(A4 b4, .inl (gI g, 10, .inl (upd v7.2.2.2.2.2 (7 : Int32).toNatClampNeg ((v7.2.2.2.2.2 (7 : Int32).toNatClampNeg) + 1))))]]) 3 0 rfl rfl g2 dL_night_229 rfl (fun H locs hW => ?_)
        refine lv_aload_n hx hb dL_night_230 rfl (lv_at hl 0 rfl) ?_
        refine lv_bipush (v := 8) hx hb dL_night_231 (by decide) ?_
        refine lv_dup2_11 hx hb dL_night_233 rfl rfl ?_
        obtain ⟨g3, h⟩ := q_g h
        refine r_iald C hW 3 0 rfl rfl g3 dL_night_234 ?_
        refine lv_iload hx hb dL_night_235 (lv_at hl 1 rfl) ?_
        refine lv_iadd hx hb dL_night_237 ?_
        obtain ⟨g4, h⟩ := q_g h
        refine r_iast C hW (bs' := [[(A b, .inl (gI g, 48, .inl v7.2.2.1))], [(A2 b2, .inl (gI g, 48, .inl v7.2.2.2.1))], [(A3 b3, .inl (gI g, 32, .inl v7.2.2.2.2.1))], [(A4 b4, .inl (gI g, 10, .inl (upd (upd v7.2.2.2.2.2 (7 : Int32).toNatClampNeg ((v7.2.2.2.2.2 (7 : Int32).toNatClampNeg) + 1)) (8 : Int32).toNatClampNeg (((upd v7.2.2.2.2.2 (7 : Int32).toNatClampNeg ((v7.2.2.2.2.2 (7 : Int32).toNatClampNeg) + 1)) (8 : Int32).toNatClampNeg) + v7.1))))]]) 3 0 rfl rfl g4 dL_night_238 rfl (fun H locs hW => ?_)
        refine lv_iload hx hb dL_night_239 (lv_at hl 1 rfl) ?_
        cases h
        exact E _ _ _ _ _ hW rfl rfl dL_night_241
      have J31 : ∀ (w31 : Unit), f_L_night_j31 p1 p2 (lpN (f_L_night_l7 p1 p2) n7) v7 w31 = some (r, x', y', z3', z4') → ∀ (H : Heap) (locs : List Loc), WdG g Z s.heap H locs [[(A b, .inl (gI g, 48, .inl v7.2.2.1))], [(A2 b2, .inl (gI g, 48, .inl v7.2.2.2.1))], [(A3 b3, .inl (gI g, 32, .inl v7.2.2.2.2.1))], [(A4 b4, .inl (gI g, 10, .inl v7.2.2.2.2.2))]] → ∀ ls : Array Slot, lv_has ls 11 [(0, .ref (A b)), (1, .ref (A2 b2)), (2, .ref (A3 b3)), (3, .ref (A4 b4)), (4, .int p1), (5, .int p2), (6, .int v7.1), (7, .int v7.2.1)] → W p l e R s m args below meth c H locs 0 0 Q (F0 m 31 ls []) := by
        intro w31 h H locs hW ls hl
        unfold f_L_night_j31 at h
        refine lv_iconst (v := 0) hx hb dL_night_31 (by decide) ?_
        refine lv_istore (lv' := [(8, .int 0), (0, .ref (A b)), (1, .ref (A2 b2)), (2, .ref (A3 b3)), (3, .ref (A4 b4)), (4, .int p1), (5, .int p2), (6, .int v7.1), (7, .int v7.2.1)]) hx hb dL_night_32 hl (by decide) rfl (fun ls hl => ?_)
        have L34 : ∀ n34 : Nat, ∀ (v34 : Int32 × Int32 × TV48s × TV48s × TV32s × TV10s), lpN (f_L_night_l34 p1 p2 (lpN (f_L_night_l7 p1 p2) n7) v7) n34 v34 = some (r, x', y', z3', z4') → ∀ (H : Heap) (locs : List Loc), WdG g Z s.heap H locs [[(A b, .inl (gI g, 48, .inl v34.2.2.1))], [(A2 b2, .inl (gI g, 48, .inl v34.2.2.2.1))], [(A3 b3, .inl (gI g, 32, .inl v34.2.2.2.2.1))], [(A4 b4, .inl (gI g, 10, .inl v34.2.2.2.2.2))]] → ∀ ls : Array Slot, lv_has ls 11 [(0, .ref (A b)), (1, .ref (A2 b2)), (2, .ref (A3 b3)), (3, .ref (A4 b4)), (4, .int p1), (5, .int p2), (6, .int v34.1), (7, .int v7.2.1), (8, .int v34.2.1)] → W p l e R s m args below meth c H locs 0 0 Q (F0 m 34 ls []) := by
          intro n34
          induction n34 with
          | zero => intro v34 h; exact absurd (show none = some (r, x', y', z3', z4') from h) (fun h => by cases h)
          | succ n34 ih34 =>
            intro v34 h H locs hW ls hl
            replace h : f_L_night_l34 p1 p2 (lpN (f_L_night_l7 p1 p2) n7) v7 (lpN (f_L_night_l34 p1 p2 (lpN (f_L_night_l7 p1 p2) n7) v7) n34) v34 = some (r, x', y', z3', z4') := h
            unfold f_L_night_l34 at h
            refine lv_iload hx hb dL_night_34 (lv_at hl 8 rfl) ?_
            refine lv_bipush (v := 8) hx hb dL_night_36 (by decide) ?_
            refine lv_icmp_ge (tgt := 202) hx hb dL_night_38 (by decide) (fun e5 => ?_) (fun e5 => ?_)
            · replace h := q_t e5 h
              refine lv_iload hx hb dL_night_202 (lv_at hl 7 rfl) ?_
              refine lv_iload hx hb dL_night_204 (lv_at hl 4 rfl) ?_
              refine lv_iload hx hb dL_night_206 (lv_at hl 5 rfl) ?_
              refine lv_icmp_gt (tgt := 215) hx hb dL_night_208 (by decide) (fun e6 => ?_) (fun e6 => ?_)
              · replace h := q_t e6 h
                refine lv_iconst (v := (-1)) hx hb dL_night_215 (by decide) ?_
                refine lv_iadd hx hb dL_night_216 ?_
                refine lv_topi (fun zz7 ez8 => ?_)
                rw [← ez8] at h
                refine lv_istore (lv' := [(7, .int zz7), (0, .ref (A b)), (1, .ref (A2 b2)), (2, .ref (A3 b3)), (3, .ref (A4 b4)), (4, .int p1), (5, .int p2), (6, .int v34.1), (8, .int v34.2.1)]) hx hb dL_night_217 hl (by decide) rfl (fun ls hl => ?_)
                refine lv_goto (tgt := 7) hx hb dL_night_219 (by decide) ?_
                exact ih7 (v34.1, zz7, v34.2.2.1, v34.2.2.2.1, v34.2.2.2.2.1, v34.2.2.2.2.2) h _ _ hW _ (lv_sub hl [1, 2, 3, 4, 5, 6, 7, 0] rfl)
              · replace h := q_f e6 h
                refine lv_iconst (v := 1) hx hb dL_night_211 (by decide) ?_
                refine lv_goto (tgt := 216) hx hb dL_night_212 (by decide) ?_
                refine lv_iadd hx hb dL_night_216 ?_
                refine lv_istore (lv' := [(7, .int (v7.2.1 + 1)), (0, .ref (A b)), (1, .ref (A2 b2)), (2, .ref (A3 b3)), (3, .ref (A4 b4)), (4, .int p1), (5, .int p2), (6, .int v34.1), (8, .int v34.2.1)]) hx hb dL_night_217 hl (by decide) rfl (fun ls hl => ?_)
                refine lv_goto (tgt := 7) hx hb dL_night_219 (by decide) ?_
                exact ih7 (v34.1, (v7.2.1 + 1), v34.2.2.1, v34.2.2.2.1, v34.2.2.2.2.1, v34.2.2.2.2.2) h _ _ hW _ (lv_sub hl [1, 2, 3, 4, 5, 6, 7, 0] rfl)
            · replace h := q_f e5 h
              refine lv_iload hx hb dL_night_41 (lv_at hl 8 rfl) ?_
              refine lv_bipush (v := 6) hx hb dL_night_43 (by decide) ?_
              have J72 : ∀ (w72 : Int32), f_L_night_j72 (lpN (f_L_night_l34 p1 p2 (lpN (f_L_night_l7 p1 p2) n7) v7) n34) v34 w72 = some (r, x', y', z3', z4') → ∀ (H : Heap) (locs : List Loc), WdG g Z s.heap H locs [[(A b, .inl (gI g, 48, .inl v34.2.2.1))], [(A2 b2, .inl (gI g, 48, .inl v34.2.2.2.1))], [(A3 b3, .inl (gI g, 32, .inl v34.2.2.2.2.1))], [(A4 b4, .inl (gI g, 10, .inl v34.2.2.2.2.2))]] → ∀ ls : Array Slot, lv_has ls 11 [(0, .ref (A b)), (1, .ref (A2 b2)), (2, .ref (A3 b3)), (3, .ref (A4 b4)), (4, .int p1), (5, .int p2), (6, .int v34.1), (7, .int v7.2.1), (8, .int v34.2.1)] → W p l e R s m args below meth c H locs 0 0 Q (F0 m 72 ls [.int w72]) := by
                intro w72 h H locs hW ls hl
                unfold f_L_night_j72 at h
                refine lv_istore (lv' := [(9, .int w72), (0, .ref (A b)), (1, .ref (A2 b2)), (2, .ref (A3 b3)), (3, .ref (A4 b4)), (4, .int p1), (5, .int p2), (6, .int v34.1), (7, .int v7.2.1), (8, .int v34.2.1)]) hx hb dL_night_72 hl (by decide) rfl (fun ls hl => ?_)
                refine lv_iload hx hb dL_night_74 (lv_at hl 9 rfl) ?_
                refine lv_iconst (v := 3) hx hb dL_night_76 (by decide) ?_
                have J105 : ∀ (w105 : Int32), f_L_night_j105 (lpN (f_L_night_l34 p1 p2 (lpN (f_L_night_l7 p1 p2) n7) v7) n34) v34 w72 w105 = some (r, x', y', z3', z4') → ∀ (H : Heap) (locs : List Loc), WdG g Z s.heap H locs [[(A b, .inl (gI g, 48, .inl v34.2.2.1))], [(A2 b2, .inl (gI g, 48, .inl v34.2.2.2.1))], [(A3 b3, .inl (gI g, 32, .inl v34.2.2.2.2.1))], [(A4 b4, .inl (gI g, 10, .inl v34.2.2.2.2.2))]] → ∀ ls : Array Slot, lv_has ls 11 [(0, .ref (A b)), (1, .ref (A2 b2)), (2, .ref (A3 b3)), (3, .ref (A4 b4)), (4, .int p1), (5, .int p2), (6, .int v34.1), (7, .int v7.2.1), (8, .int v34.2.1), (9, .int w72)] → W p l e R s m args below meth c H locs 0 0 Q (F0 m 105 ls [.int w105]) := by
                  intro w105 h H locs hW ls hl
                  unfold f_L_night_j105 at h
                  refine lv_istore (lv' := [(10, .int w105), (0, .ref (A b)), (1, .ref (A2 b2)), (2, .ref (A3 b3)), (3, .ref (A4 b4)), (4, .int p1), (5, .int p2), (6, .int v34.1), (7, .int v7.2.1), (8, .int v34.2.1), (9, .int w72)]) hx hb dL_night_105 hl (by decide) rfl (fun ls hl => ?_)
                  refine lv_iload hx hb dL_night_107 (lv_at hl 0 rfl) ?_
                  obtain ⟨t9, h10, h⟩ := q_b h
                  refine r_cSi C hW (nA := 1) (As := [.int w105]) (rest := []) (c_L_weak l g w105 _ h10) gL_night_L_weak rfl wo_L_weak (rmk hR rfl rfl) rfl rfl hl.1 (Nat.le_of_ble_eq_true rfl) rz dL_night_109 (n := 4) (is := []) (rs := [0, 1, 2, 3]) (bs' := [[(A b, .inl (gI g, 48, .inl v34.2.2.1))], [(A2 b2, .inl (gI g, 48, .inl v34.2.2.2.1))], [(A3 b3, .inl (gI g, 32, .inl v34.2.2.2.2.1))], [(A4 b4, .inl (gI g, 10, .inl v34.2.2.2.2.2))]]) rfl rfl pm_656c4e9a rfl rfl rfl (fun H locs hW => ?_)
                  refine lv_if_eq (tgt := 196) hx hb dL_night_112 (by decide) (fun e11 => ?_) (fun e11 => ?_)
                  · replace h := q_t e11 h
                    refine lv_iinc (v := (v34.2.1 + 1)) (lv' := [(8, .int (v34.2.1 + 1)), (10, .int w105), (0, .ref (A b)), (1, .ref (A2 b2)), (2, .ref (A3 b3)), (3, .ref (A4 b4)), (4, .int p1), (5, .int p2), (6, .int v34.1), (7, .int v7.2.1), (9, .int w72)]) hx hb dL_night_196 hl (k := 9) rfl rfl (by decide) rfl (fun ls hl => ?_)
                    refine lv_goto (tgt := 34) hx hb dL_night_199 (by decide) ?_
                    exact ih34 (v34.1, (v34.2.1 + 1), v34.2.2.1, v34.2.2.2.1, v34.2.2.2.2.1, v34.2.2.2.2.2) h _ _ hW _ (lv_sub hl [2, 3, 4, 5, 6, 7, 8, 9, 0] rfl)
                  · replace h := q_f e11 h
                    refine lv_aload_n hx hb dL_night_115 rfl (lv_at hl 4 rfl) ?_
                    refine lv_iconst (v := 5) hx hb dL_night_116 (by decide) ?_
                    obtain ⟨g12, h⟩ := q_g h
                    refine r_iald C hW 3 0 rfl rfl g12 dL_night_117 ?_
                    refine lv_if_le (tgt := 196) hx hb dL_night_118 (by decide) (fun e13 => ?_) (fun e13 => ?_)
                    · replace h := q_t e13 h
                      refine lv_iinc (v := (v34.2.1 + 1)) (lv' := [(8, .int (v34.2.1 + 1)), (10, .int w105), (0, .ref (A b)), (1, .ref (A2 b2)), (2, .ref (A3 b3)), (3, .ref (A4 b4)), (4, .int p1), (5, .int p2), (6, .int v34.1), (7, .int v7.2.1), (9, .int w72)]) hx hb dL_night_196 hl (k := 9) rfl rfl (by decide) rfl (fun ls hl => ?_)
                      refine lv_goto (tgt := 34) hx hb dL_night_199 (by decide) ?_
                      exact ih34 (v34.1, (v34.2.1 + 1), v34.2.2.1, v34.2.2.2.1, v34.2.2.2.2.1, v34.2.2.2.2.2) h _ _ hW _ (lv_sub hl [2, 3, 4, 5, 6, 7, 8, 9, 0] rfl)
                    · replace h := q_f e13 h
                      refine lv_iload hx hb dL_night_121 (lv_at hl 7 rfl) ?_
                      refine lv_aload_n hx hb dL_night_123 rfl (lv_at hl 4 rfl) ?_
                      refine lv_iconst (v := 1) hx hb dL_night_124 (by decide) ?_
                      obtain ⟨g14, h⟩ := q_g h
                      refine r_iald C hW 3 0 rfl rfl g14 dL_night_125 ?_
                      refine lv_icmp_ge (tgt := 196) hx hb dL_night_126 (by decide) (fun e15 => ?_) (fun e15 => ?_)
                      · replace h := q_t e15 h
                        refine lv_iinc (v := (v34.2.1 + 1)) (lv' := [(8, .int (v34.2.1 + 1)), (10, .int w105), (0, .ref (A b)), (1, .ref (A2 b2)), (2, .ref (A3 b3)), (3, .ref (A4 b4)), (4, .int p1), (5, .int p2), (6, .int v34.1), (7, .int v7.2.1), (9, .int w72)]) hx hb dL_night_196 hl (k := 9) rfl rfl (by decide) rfl (fun ls hl => ?_)
                        refine lv_goto (tgt := 34) hx hb dL_night_199 (by decide) ?_
                        exact ih34 (v34.1, (v34.2.1 + 1), v34.2.2.1, v34.2.2.2.1, v34.2.2.2.2.1, v34.2.2.2.2.2) h _ _ hW _ (lv_sub hl [2, 3, 4, 5, 6, 7, 8, 9, 0] rfl)
                      · replace h := q_f e15 h
                        refine lv_aload_n hx hb dL_night_129 rfl (lv_at hl 2 rfl) ?_
                        refine lv_iload hx hb dL_night_130 (lv_at hl 10 rfl) ?_
                        refine lv_iload hx hb dL_night_132 (lv_at hl 9 rfl) ?_
                        refine lv_iconst (v := 3) hx hb dL_night_134 (by decide) ?_
                        have J147 : ∀ (w147 : Int32), f_L_night_j147 (lpN (f_L_night_l34 p1 p2 (lpN (f_L_night_l7 p1 p2) n7) v7) n34) v34 w72 w147 = some (r, x', y', z3', z4') → ∀ (H : Heap) (locs : List Loc), WdG g Z s.heap H locs [[(A b, .inl (gI g, 48, .inl v34.2.2.1))], [(A2 b2, .inl (gI g, 48, .inl v34.2.2.2.1))], [(A3 b3, .inl (gI g, 32, .inl v34.2.2.2.2.1))], [(A4 b4, .inl (gI g, 10, .inl v34.2.2.2.2.2))]] → ∀ ls : Array Slot, lv_has ls 11 [(0, .ref (A b)), (1, .ref (A2 b2)), (2, .ref (A3 b3)), (3, .ref (A4 b4)), (4, .int p1), (5, .int p2), (6, .int v34.1), (7, .int v7.2.1), (8, .int v34.2.1), (9, .int w72)] → W p l e R s m args below meth c H locs 0 0 Q (F0 m 147 ls [.int w147, .int w72, .ref (A2 b2)]) := by
                          intro w147 h H locs hW ls hl
                          unfold f_L_night_j147 at h
                          obtain ⟨g16, h⟩ := q_g h
                          refine r_iast C hW (bs' := [[(A b, .inl (gI g, 48, .inl v34.2.2.1))], [(A2 b2, .inl (gI g, 48, .inl (upd v34.2.2.2.1 (w72).toNatClampNeg w147)))], [(A3 b3, .inl (gI g, 32, .inl v34.2.2.2.2.1))], [(A4 b4, .inl (gI g, 10, .inl v34.2.2.2.2.2))]]) 1 0 rfl rfl g16 dL_night_147 rfl (fun H locs hW => ?_)
                          refine lv_aload_n hx hb dL_night_148 rfl (lv_at hl 0 rfl) ?_
                          refine lv_iload hx hb dL_night_149 (lv_at hl 9 rfl) ?_
                          refine lv_iload hx hb dL_night_151 (lv_at hl 8 rfl) ?_
                          refine lv_iconst (v := 3) hx hb dL_night_153 (by decide) ?_
                          have J173 : ∀ (w173 : Int32), f_L_night_j173 (lpN (f_L_night_l34 p1 p2 (lpN (f_L_night_l7 p1 p2) n7) v7) n34) v34 w72 w147 w173 = some (r, x', y', z3', z4') → ∀ (H : Heap) (locs : List Loc), WdG g Z s.heap H locs [[(A b, .inl (gI g, 48, .inl v34.2.2.1))], [(A2 b2, .inl (gI g, 48, .inl (upd v34.2.2.2.1 (w72).toNatClampNeg w147)))], [(A3 b3, .inl (gI g, 32, .inl v34.2.2.2.2.1))], [(A4 b4, .inl (gI g, 10, .inl v34.2.2.2.2.2))]] → ∀ ls : Array Slot, lv_has ls 11 [(0, .ref (A b)), (1, .ref (A2 b2)), (2, .ref (A3 b3)), (3, .ref (A4 b4)), (4, .int p1), (5, .int p2), (6, .int v34.1), (7, .int v7.2.1), (8, .int v34.2.1), (9, .int w72)] → W p l e R s m args below meth c H locs 0 0 Q (F0 m 173 ls [.int w173, .int w72, .ref (A b)]) := by
                            intro w173 h H locs hW ls hl
                            unfold f_L_night_j173 at h
                            obtain ⟨g17, h⟩ := q_g h
                            refine r_iast C hW (bs' := [[(A b, .inl (gI g, 48, .inl (upd v34.2.2.1 (w72).toNatClampNeg w173)))], [(A2 b2, .inl (gI g, 48, .inl (upd v34.2.2.2.1 (w72).toNatClampNeg w147)))], [(A3 b3, .inl (gI g, 32, .inl v34.2.2.2.2.1))], [(A4 b4, .inl (gI g, 10, .inl v34.2.2.2.2.2))]]) 0 0 rfl rfl g17 dL_night_173 rfl (fun H locs hW => ?_)
                            refine lv_iload hx hb dL_night_174 (lv_at hl 8 rfl) ?_
                            refine lv_iconst (v := 5) hx hb dL_night_176 (by decide) ?_
                            have J186 : ∀ (w186 : TV48s × TV48s × TV32s × TV10s), f_L_night_j186 (lpN (f_L_night_l34 p1 p2 (lpN (f_L_night_l7 p1 p2) n7) v7) n34) v34 w186 = some (r, x', y', z3', z4') → ∀ (H : Heap) (locs : List Loc), WdG g Z s.heap H locs [[(A b, .inl (gI g, 48, .inl w186.1))], [(A2 b2, .inl (gI g, 48, .inl w186.2.1))], [(A3 b3, .inl (gI g, 32, .inl w186.2.2.1))], [(A4 b4, .inl (gI g, 10, .inl w186.2.2.2))]] → ∀ ls : Array Slot, lv_has ls 11 [(0, .ref (A b)), (1, .ref (A2 b2)), (2, .ref (A3 b3)), (3, .ref (A4 b4)), (4, .int p1), (5, .int p2), (6, .int v34.1), (7, .int v7.2.1), (8, .int v34.2.1)] → W p l e R s m args below meth c H locs 0 0 Q (F0 m 186 ls []) := by
                              intro w186 h H locs hW ls hl
                              unfold f_L_night_j186 at h
                              refine lv_aload_n hx hb dL_night_186 rfl (lv_at hl 3 rfl) ?_
                              refine lv_iconst (v := 5) hx hb dL_night_187 (by decide) ?_
                              refine lv_dup2_11 hx hb dL_night_188 rfl rfl ?_
                              obtain ⟨g18, h⟩ := q_g h
                              refine r_iald C hW 3 0 rfl rfl g18 dL_night_189 ?_
                              refine lv_iconst (v := 1) hx hb dL_night_190 (by decide) ?_
                              refine lv_isub hx hb dL_night_191 ?_
                              obtain ⟨g19, h⟩ := q_g h
                              refine r_iast C hW (bs' := [[(A b, .inl (gI g, 48, .inl w186.1))], [(A2 b2, .inl (gI g, 48, .inl w186.2.1))], [(A3 b3, .inl (gI g, 32, .inl w186.2.2.1))], [(A4 b4, .inl (gI g, 10, .inl (upd w186.2.2.2 (5 : Int32).toNatClampNeg ((w186.2.2.2 (5 : Int32).toNatClampNeg) - 1))))]]) 3 0 rfl rfl g19 dL_night_192 rfl (fun H locs hW => ?_)
                              refine lv_iinc (v := (v34.1 + 1)) (lv' := [(6, .int (v34.1 + 1)), (0, .ref (A b)), (1, .ref (A2 b2)), (2, .ref (A3 b3)), (3, .ref (A4 b4)), (4, .int p1), (5, .int p2), (7, .int v7.2.1), (8, .int v34.2.1)]) hx hb dL_night_193 hl (k := 6) rfl rfl (by decide) rfl (fun ls hl => ?_)
                              refine lv_iinc (v := (v34.2.1 + 1)) (lv' := [(8, .int (v34.2.1 + 1)), (6, .int (v34.1 + 1)), (0, .ref (A b)), (1, .ref (A2 b2)), (2, .ref (A3 b3)), (3, .ref (A4 b4)), (4, .int p1), (5, .int p2), (7, .int v7.2.1)]) hx hb dL_night_196 hl (k := 8) rfl rfl (by decide) rfl (fun ls hl => ?_)
                              refine lv_goto (tgt := 34) hx hb dL_night_199 (by decide) ?_
                              exact ih34 ((v34.1 + 1), (v34.2.1 + 1), w186.1, w186.2.1, w186.2.2.1, (upd w186.2.2.2 (5 : Int32).toNatClampNeg ((w186.2.2.2 (5 : Int32).toNatClampNeg) - 1))) h _ _ hW _ (lv_sub hl [2, 3, 4, 5, 6, 7, 1, 8, 0] rfl)
                            refine lv_icmp_le (tgt := 186) hx hb dL_night_177 (by decide) (fun e20 => ?_) (fun e20 => ?_)
                            · replace h := q_t e20 h
                              exact J186 ((upd v34.2.2.1 (w72).toNatClampNeg w173), (upd v34.2.2.2.1 (w72).toNatClampNeg w147), v34.2.2.2.2.1, v34.2.2.2.2.2) h _ _ hW _ (lv_sub hl [0, 1, 2, 3, 4, 5, 6, 7, 8] rfl)
                            · replace h := q_f e20 h
                              refine lv_aload_n hx hb dL_night_180 rfl (lv_at hl 2 rfl) ?_
                              refine lv_iload hx hb dL_night_181 (lv_at hl 9 rfl) ?_
                              refine lv_bipush (v := 100) hx hb dL_night_183 (by decide) ?_
                              obtain ⟨g21, h⟩ := q_g h
                              refine r_iast C hW (bs' := [[(A b, .inl (gI g, 48, .inl (upd v34.2.2.1 (w72).toNatClampNeg w173)))], [(A2 b2, .inl (gI g, 48, .inl (upd v34.2.2.2.1 (w72).toNatClampNeg w147)))], [(A3 b3, .inl (gI g, 32, .inl (upd v34.2.2.2.2.1 (w72).toNatClampNeg 100)))], [(A4 b4, .inl (gI g, 10, .inl v34.2.2.2.2.2))]]) 2 0 rfl rfl g21 dL_night_185 rfl (fun H locs hW => ?_)
                              exact J186 ((upd v34.2.2.1 (w72).toNatClampNeg w173), (upd v34.2.2.2.1 (w72).toNatClampNeg w147), (upd v34.2.2.2.2.1 (w72).toNatClampNeg 100), v34.2.2.2.2.2) h _ _ hW _ (lv_sub hl [0, 1, 2, 3, 4, 5, 6, 7, 8] rfl)
                          have J169 : ∀ (w169 : Unit), f_L_night_j169 (lpN (f_L_night_l34 p1 p2 (lpN (f_L_night_l7 p1 p2) n7) v7) n34) v34 w72 w147 w169 = some (r, x', y', z3', z4') → ∀ (H : Heap) (locs : List Loc), WdG g Z s.heap H locs [[(A b, .inl (gI g, 48, .inl v34.2.2.1))], [(A2 b2, .inl (gI g, 48, .inl (upd v34.2.2.2.1 (w72).toNatClampNeg w147)))], [(A3 b3, .inl (gI g, 32, .inl v34.2.2.2.2.1))], [(A4 b4, .inl (gI g, 10, .inl v34.2.2.2.2.2))]] → ∀ ls : Array Slot, lv_has ls 11 [(0, .ref (A b)), (1, .ref (A2 b2)), (2, .ref (A3 b3)), (3, .ref (A4 b4)), (4, .int p1), (5, .int p2), (6, .int v34.1), (7, .int v7.2.1), (8, .int v34.2.1), (9, .int w72)] → W p l e R s m args below meth c H locs 0 0 Q (F0 m 169 ls [.int w72, .ref (A b)]) := by
                            intro w169 h H locs hW ls hl
                            unfold f_L_night_j169 at h
                            refine lv_aload_n hx hb dL_night_169 rfl (lv_at hl 0 rfl) ?_
                            refine lv_iload hx hb dL_night_170 (lv_at hl 9 rfl) ?_
                            obtain ⟨g22, h⟩ := q_g h
                            refine r_iald C hW 0 0 rfl rfl g22 dL_night_172 ?_
                            exact J173 (v34.2.2.1 (w72).toNatClampNeg) h _ _ hW _ (lv_sub hl [0, 1, 2, 3, 4, 5, 6, 7, 8, 9] rfl)
                          refine lv_icmp_lt (tgt := 169) hx hb dL_night_154 (by decide) (fun e23 => ?_) (fun e23 => ?_)
                          · replace h := q_t e23 h
                            exact J169 () h _ _ hW _ (lv_sub hl [0, 1, 2, 3, 4, 5, 6, 7, 8, 9] rfl)
                          · replace h := q_f e23 h
                            refine lv_iload hx hb dL_night_157 (lv_at hl 8 rfl) ?_
                            refine lv_bipush (v := 6) hx hb dL_night_159 (by decide) ?_
                            refine lv_icmp_ge (tgt := 169) hx hb dL_night_161 (by decide) (fun e24 => ?_) (fun e24 => ?_)
                            · replace h := q_t e24 h
                              exact J169 () h _ _ hW _ (lv_sub hl [0, 1, 2, 3, 4, 5, 6, 7, 8, 9] rfl)
                            · replace h := q_f e24 h
                              refine lv_bipush (v := 100) hx hb dL_night_164 (by decide) ?_
                              refine lv_goto (tgt := 173) hx hb dL_night_166 (by decide) ?_
                              exact J173 100 h _ _ hW _ (lv_sub hl [0, 1, 2, 3, 4, 5, 6, 7, 8, 9] rfl)
                        refine lv_icmp_ge (tgt := 143) hx hb dL_night_135 (by decide) (fun e25 => ?_) (fun e25 => ?_)
                        · replace h := q_t e25 h
                          refine lv_aload_n hx hb dL_night_143 rfl (lv_at hl 2 rfl) ?_
                          refine lv_iload hx hb dL_night_144 (lv_at hl 10 rfl) ?_
                          obtain ⟨g26, h⟩ := q_g h
                          refine r_iald C hW 1 0 rfl rfl g26 dL_night_146 ?_
                          exact J147 (v34.2.2.2.1 (w72).toNatClampNeg) h _ _ hW _ (lv_sub hl [1, 2, 3, 4, 5, 6, 7, 8, 9, 10] rfl)
                        · replace h := q_f e25 h
                          refine lv_bipush (v := 100) hx hb dL_night_138 (by decide) ?_
                          refine lv_goto (tgt := 147) hx hb dL_night_140 (by decide) ?_
                          exact J147 100 h _ _ hW _ (lv_sub hl [1, 2, 3, 4, 5, 6, 7, 8, 9, 10] rfl)
                refine lv_icmp_ge (tgt := 87) hx hb dL_night_77 (by decide) (fun e27 => ?_) (fun e27 => ?_)
                · replace h := q_t e27 h
                  refine lv_iload hx hb dL_night_87 (lv_at hl 9 rfl) ?_
                  refine lv_bipush (v := 6) hx hb dL_night_89 (by decide) ?_
                  refine lv_icmp_ge (tgt := 101) hx hb dL_night_91 (by decide) (fun e28 => ?_) (fun e28 => ?_)
                  · replace h := q_t e28 h
                    refine lv_aload_n hx hb dL_night_101 rfl (lv_at hl 3 rfl) ?_
                    refine lv_iload hx hb dL_night_102 (lv_at hl 0 rfl) ?_
                    obtain ⟨g29, h⟩ := q_g h
                    refine r_iald C hW 2 0 rfl rfl g29 dL_night_104 ?_
                    exact J105 (v34.2.2.2.2.1 (w72).toNatClampNeg) h _ _ hW _ (lv_sub hl [1, 2, 3, 4, 5, 6, 7, 8, 9, 0] rfl)
                  · replace h := q_f e28 h
                    refine lv_aload_n hx hb dL_night_94 rfl (lv_at hl 1 rfl) ?_
                    refine lv_iload hx hb dL_night_95 (lv_at hl 0 rfl) ?_
                    obtain ⟨g30, h⟩ := q_g h
                    refine r_iald C hW 0 0 rfl rfl g30 dL_night_97 ?_
                    refine lv_goto (tgt := 105) hx hb dL_night_98 (by decide) ?_
                    exact J105 (v34.2.2.1 (w72).toNatClampNeg) h _ _ hW _ (lv_sub hl [1, 2, 3, 4, 5, 6, 7, 8, 9, 0] rfl)
                · replace h := q_f e27 h
                  refine lv_aload_n hx hb dL_night_80 rfl (lv_at hl 2 rfl) ?_
                  refine lv_iload hx hb dL_night_81 (lv_at hl 0 rfl) ?_
                  obtain ⟨g31, h⟩ := q_g h
                  refine r_iald C hW 1 0 rfl rfl g31 dL_night_83 ?_
                  refine lv_goto (tgt := 105) hx hb dL_night_84 (by decide) ?_
                  exact J105 (v34.2.2.2.1 (w72).toNatClampNeg) h _ _ hW _ (lv_sub hl [1, 2, 3, 4, 5, 6, 7, 8, 9, 0] rfl)
              refine lv_icmp_ge (tgt := 61) hx hb dL_night_45 (by decide) (fun e32 => ?_) (fun e32 => ?_)
              · replace h := q_t e32 h
                refine lv_bipush (v := 16) hx hb dL_night_61 (by decide) ?_
                refine lv_iload hx hb dL_night_63 (lv_at hl 8 rfl) ?_
                refine lv_bipush (v := 6) hx hb dL_night_65 (by decide) ?_
                refine lv_isub hx hb dL_night_67 ?_
                refine lv_imul hx hb dL_night_68 ?_
                refine lv_iload hx hb dL_night_69 (lv_at hl 7 rfl) ?_
                refine lv_iadd hx hb dL_night_71 ?_
                exact J72 ((16 * (v34.2.1 - 6)) + v7.2.1) h _ _ hW _ (lv_sub hl [0, 1, 2, 3, 4, 5, 6, 7, 8] rfl)
              · replace h := q_f e32 h
                refine lv_bipush (v := 16) hx hb dL_night_48 (by decide) ?_
                refine lv_iload hx hb dL_night_50 (lv_at hl 8 rfl) ?_
                refine lv_iconst (v := 3) hx hb dL_night_52 (by decide) ?_
                have g33 : ¬ (3 : Int32) = 0 := by decide
                refine lv_irem hx hb dL_night_53 g33 ?_
                refine lv_imul hx hb dL_night_54 ?_
                refine lv_iload hx hb dL_night_55 (lv_at hl 7 rfl) ?_
                refine lv_iadd hx hb dL_night_57 ?_
                refine lv_goto (tgt := 72) hx hb dL_night_58 (by decide) ?_
                exact J72 ((16 * (v34.2.1 - v34.2.1 / 3 * 3)) + v7.2.1) h _ _ hW _ (lv_sub hl [0, 1, 2, 3, 4, 5, 6, 7, 8] rfl)
        exact L34 3000 (v7.1, 0, v7.2.2.1, v7.2.2.2.1, v7.2.2.2.2.1, v7.2.2.2.2.2) h _ _ hW _ (lv_sub hl [1, 2, 3, 4, 5, 6, 7, 8, 0] rfl)
      refine lv_icmp_gt (tgt := 24) hx hb dL_night_11 (by decide) (fun e34 => ?_) (fun e34 => ?_)
      · replace h := q_t e34 h
        refine lv_iload hx hb dL_night_24 (lv_at hl 7 rfl) ?_
        refine lv_iload hx hb dL_night_26 (lv_at hl 5 rfl) ?_
        refine lv_icmp_lt (tgt := 222) hx hb dL_night_28 (by decide) (fun e35 => ?_) (fun e35 => ?_)
        · replace h := q_t e35 h
          exact J222 () h _ _ hW _ (lv_sub hl [3, 6] rfl)
        · replace h := q_f e35 h
          exact J31 () h _ _ hW _ (lv_sub hl [0, 1, 2, 3, 4, 5, 6, 7] rfl)
      · replace h := q_f e34 h
        refine lv_iload hx hb dL_night_14 (lv_at hl 7 rfl) ?_
        refine lv_iload hx hb dL_night_16 (lv_at hl 5 rfl) ?_
        refine lv_icmp_gt (tgt := 222) hx hb dL_night_18 (by decide) (fun e36 => ?_) (fun e36 => ?_)
        · replace h := q_t e36 h
          exact J222 () h _ _ hW _ (lv_sub hl [3, 6] rfl)
        · replace h := q_f e36 h
          refine lv_goto (tgt := 31) hx hb dL_night_21 (by decide) ?_
          exact J31 () h _ _ hW _ (lv_sub hl [0, 1, 2, 3, 4, 5, 6, 7] rfl)
  exact L7 3000 (0, p1, x, y, z3, z4) h _ _ hW _ (lv_sub hl [2, 3, 4, 5, 6, 7, 1, 0] rfl)
