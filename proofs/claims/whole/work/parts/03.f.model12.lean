def f_X6_bestNight_j127 (v19 : Int32 × Int32 × Int32) (k41 : (Int32 × Int32 × Int32) → Option (Int32)) (v41 : Int32 × Int32 × Int32) (w127 : Int32 × Int32) : Option (Int32) :=
if v19.2.2 = 0 then (
k41 (w127.1, w127.2, (v41.2.2 + 1)))
else (
k41 (w127.1, w127.2, (v41.2.2 + (2 * v19.2.2))))
def f_X6_bestNight_j126 (v19 : Int32 × Int32 × Int32) (k41 : (Int32 × Int32 × Int32) → Option (Int32)) (v41 : Int32 × Int32 × Int32) (w113 : Int32) (w126 : Int32) : Option (Int32) :=
f_X6_bestNight_j127 v19 k41 v41 (w113, w126)
def f_X6_bestNight_j113 (v19 : Int32 × Int32 × Int32) (k41 : (Int32 × Int32 × Int32) → Option (Int32)) (v41 : Int32 × Int32 × Int32) (t10 : Int32) (w113 : Int32) : Option (Int32) :=
if t10 ≤ v41.2.1 then (
f_X6_bestNight_j126 v19 k41 v41 w113 v41.2.1)
else (
f_X6_bestNight_j126 v19 k41 v41 w113 t10)
def f_X6_bestNight_j90 (x : TX6s) (v19 : Int32 × Int32 × Int32) (v28 : Int32 × Int32 × Int32) (k41 : (Int32 × Int32 × Int32) → Option (Int32)) (v41 : Int32 × Int32 × Int32) (w76 : Int32) (w90 : Int32) : Option (Int32) :=
(f_X6_wouldPaint x w76 w90).bind fun t10 =>
if t10 ≤ v41.2.1 then (
f_X6_bestNight_j113 v19 k41 v41 t10 v41.1)
else (
f_X6_bestNight_j113 v19 k41 v41 t10 ((16 * v28.2.2) + v41.2.2))
def f_X6_bestNight_j76 (x : TX6s) (v19 : Int32 × Int32 × Int32) (v28 : Int32 × Int32 × Int32) (k41 : (Int32 × Int32 × Int32) → Option (Int32)) (v41 : Int32 × Int32 × Int32) (w76 : Int32) : Option (Int32) :=
if v41.2.2 ≤ v28.2.2 then (
f_X6_bestNight_j90 x v19 v28 k41 v41 w76 v28.2.2)
else (
f_X6_bestNight_j90 x v19 v28 k41 v41 w76 v41.2.2)
def f_X6_bestNight_l41 (x : TX6s) (v19 : Int32 × Int32 × Int32) (k28 : (Int32 × Int32 × Int32) → Option (Int32)) (v28 : Int32 × Int32 × Int32) (k41 : (Int32 × Int32 × Int32) → Option (Int32)) (v41 : Int32 × Int32 × Int32) : Option (Int32) :=
if (v28.2.2 + v19.2.2) < v41.2.2 then (
k28 (v41.1, v41.2.1, (v28.2.2 + 1)))
else (
(f_X6_in v41.2.2 0 15).bind fun t6 =>
if t6 = 0 then (
f_X6_bestNight_j127 v19 k41 v41 (v41.1, v41.2.1))
else (
if v41.2.2 ≤ v28.2.2 then (
f_X6_bestNight_j76 x v19 v28 k41 v41 v41.2.2)
else (
f_X6_bestNight_j76 x v19 v28 k41 v41 v28.2.2)))
def f_X6_bestNight_l28 (x : TX6s) (k19 : (Int32 × Int32 × Int32) → Option (Int32)) (v19 : Int32 × Int32 × Int32) (k28 : (Int32 × Int32 × Int32) → Option (Int32)) (v28 : Int32 × Int32 × Int32) : Option (Int32) :=
if 16 ≤ v28.2.2 then (
k19 (v28.1, v28.2.1, (v19.2.2 + 1)))
else (
lpN (f_X6_bestNight_l41 x v19 k28 v28) 3000 (v28.1, v28.2.1, (v28.2.2 - v19.2.2)))
def f_X6_bestNight_l19 (x : TX6s) (k19 : (Int32 × Int32 × Int32) → Option (Int32)) (v19 : Int32 × Int32 × Int32) : Option (Int32) :=
if 16 ≤ v19.2.2 then (
some v19.1)
else (
lpN (f_X6_bestNight_l28 x k19 v19) 3000 (v19.1, v19.2.1, 0))
def f_X6_bestNight (x : TX6s) : Option (Int32) :=
if (5 : Int32) < 0 ∨ 268 ≤ (5 : Int32).toNatClampNeg then none else
if (x.1 (5 : Int32).toNatClampNeg) = 0 then (
some (-3))
else (
lpN (f_X6_bestNight_l19 x) 3000 ((-6), 0, 0))
theorem wo_X6_bestNight : wordsOk yX6_bestNight 0 := by decide +kernel
theorem inX6_bestNight_X6 : ∀ w ∈ wsX60, w ∈ wsX6_bestNight := fun _ h => List.mem_cons_of_mem _ (List.mem_append_right _ h)
set_option maxHeartbeats 4000000 in
set_option maxRecDepth 100000 in
theorem c_X6_bestNight (l : Launch) (g : GG) (A : Nat → Nat) (b : Nat) (x : TX6s) (r : Int32) (h : f_X6_bestNight x = some r) : CI l yX6_bestNight wsX6_bestNight 3 67 g [.ref (A b)] (wX6 g A b x) r (wX6 g A b x) := by
  refine CI.mk (own := RX6) (by decide) rfl rfl (Nat.le_of_ble_eq_true rfl) ?_
  intro p e R s m args below meth c Z Q C E hR H hW ls hl
  have hx := C.1.1
  have hb := C.1.2.1
  have hown := C.1.2.2.2.1
  replace hW : WdG g Z s.heap H [] [[(A b, .inr (6, [.ref (A (b + 1)), .ref (A (b + 2)), .int x.2.2.1, .ref (A (b + 3)), .int x.2.2.2.2.1, .ref (A (b + 4)), .int x.2.2.2.2.2.2.1, .ref (A (b + 5)), .ref (A (b + 6)), .int x.2.2.2.2.2.2.2.2.2.1, .int x.2.2.2.2.2.2.2.2.2.2.1, .int x.2.2.2.2.2.2.2.2.2.2.2]))], [(A (b + 1), .inl (gI g, 268, .inl x.1))], [(A (b + 2), .inl (gI g, 1340, .inl x.2.1))], [(A (b + 3), .inl (gI g, 268, .inl x.2.2.2.1))], [(A (b + 4), .inl (gC g, 70, .inl x.2.2.2.2.2.1))], [(A (b + 5), .inl (gI g, 3, .inl x.2.2.2.2.2.2.2.1))], [(A (b + 6), .inl (gI g, 144, .inl x.2.2.2.2.2.2.2.2.1))]] := hW.re rfl
  replace hl : lv_has ls 7 [(0, .ref (A b))] := hl
  unfold f_X6_bestNight at h
  refine lv_aload_n hx hb dX6_bestNight_0 rfl (lv_at hl 0 rfl) ?_
  refine r_get C hW (K := RX6) (T := TX6) (N := 12) (v := .ref (A (b + 1))) 0 0 0 rfl rfl rfl inX6_bestNight_X6 (by decide) (List.mem_of_getElem? (i := 1) rfl) rfl rfl dX6_bestNight_1 ?_
  refine lv_iconst (v := 5) hx hb dX6_bestNight_4 (by decide) ?_
  obtain ⟨g1, h⟩ := q_g h
  refine r_iald C hW 1 0 rfl rfl g1 dX6_bestNight_5 ?_
  refine lv_if_ne (tgt := 12) hx hb dX6_bestNight_6 (by decide) (fun e2 => ?_) (fun e2 => ?_)
  · replace h := q_f e2 h
    refine lv_bipush (v := (-6)) hx hb dX6_bestNight_12 (by decide) ?_
    refine lv_istore_n (lv' := [(1, .int (-6)), (0, .ref (A b))]) hx hb dX6_bestNight_14 rfl hl (by decide) rfl (fun ls hl => ?_)
    refine lv_iconst (v := 0) hx hb dX6_bestNight_15 (by decide) ?_
    refine lv_istore_n (lv' := [(2, .int 0), (1, .int (-6)), (0, .ref (A b))]) hx hb dX6_bestNight_16 rfl hl (by decide) rfl (fun ls hl => ?_)
    refine lv_iconst (v := 0) hx hb dX6_bestNight_17 (by decide) ?_
    refine lv_istore_n (lv' := [(3, .int 0), (2, .int 0), (1, .int (-6)), (0, .ref (A b))]) hx hb dX6_bestNight_18 rfl hl (by decide) rfl (fun ls hl => ?_)
    have L19 : ∀ n19 : Nat, ∀ (v19 : Int32 × Int32 × Int32), lpN (f_X6_bestNight_l19 x) n19 v19 = some r → ∀ (H : Heap) (locs : List Loc), WdG g Z s.heap H locs [[(A b, .inr (6, [.ref (A (b + 1)), .ref (A (b + 2)), .int x.2.2.1, .ref (A (b + 3)), .int x.2.2.2.2.1, .ref (A (b + 4)), .int x.2.2.2.2.2.2.1, .ref (A (b + 5)), .ref (A (b + 6)), .int x.2.2.2.2.2.2.2.2.2.1, .int x.2.2.2.2.2.2.2.2.2.2.1, .int x.2.2.2.2.2.2.2.2.2.2.2]))], [(A (b + 1), .inl (gI g, 268, .inl x.1))], [(A (b + 2), .inl (gI g, 1340, .inl x.2.1))], [(A (b + 3), .inl (gI g, 268, .inl x.2.2.2.1))], [(A (b + 4), .inl (gC g, 70, .inl x.2.2.2.2.2.1))], [(A (b + 5), .inl (gI g, 3, .inl x.2.2.2.2.2.2.2.1))], [(A (b + 6), .inl (gI g, 144, .inl x.2.2.2.2.2.2.2.2.1))]] → ∀ ls : Array Slot, lv_has ls 7 [(0, .ref (A b)), (1, .int v19.1), (2, .int v19.2.1), (3, .int v19.2.2)] → W p l e R s m args below meth c H locs 0 0 Q (F0 m 19 ls []) := by
      intro n19
      induction n19 with
      | zero => intro v19 h; exact absurd (show none = some r from h) (fun h => by cases h)
      | succ n19 ih19 =>
        intro v19 h H locs hW ls hl
        replace h : f_X6_bestNight_l19 x (lpN (f_X6_bestNight_l19 x) n19) v19 = some r := h
        unfold f_X6_bestNight_l19 at h
        refine lv_iload_n hx hb dX6_bestNight_19 rfl (lv_at hl 3 rfl) ?_
        refine lv_bipush (v := 16) hx hb dX6_bestNight_20 (by decide) ?_
        refine lv_icmp_ge (tgt := 158) hx hb dX6_bestNight_22 (by decide) (fun e3 => ?_) (fun e3 => ?_)
        · replace h := q_t e3 h
          refine lv_iload_n hx hb dX6_bestNight_158 rfl (lv_at hl 1 rfl) ?_
          cases h
          exact E _ _ _ _ _ hW rfl rfl dX6_bestNight_159
        · replace h := q_f e3 h
          refine lv_iconst (v := 0) hx hb dX6_bestNight_25 (by decide) ?_
          refine lv_istore (lv' := [(4, .int 0), (0, .ref (A b)), (1, .int v19.1), (2, .int v19.2.1), (3, .int v19.2.2)]) hx hb dX6_bestNight_26 hl (by decide) rfl (fun ls hl => ?_)
          have L28 : ∀ n28 : Nat, ∀ (v28 : Int32 × Int32 × Int32), lpN (f_X6_bestNight_l28 x (lpN (f_X6_bestNight_l19 x) n19) v19) n28 v28 = some r → ∀ (H : Heap) (locs : List Loc), WdG g Z s.heap H locs [[(A b, .inr (6, [.ref (A (b + 1)), .ref (A (b + 2)), .int x.2.2.1, .ref (A (b + 3)), .int x.2.2.2.2.1, .ref (A (b + 4)), .int x.2.2.2.2.2.2.1, .ref (A (b + 5)), .ref (A (b + 6)), .int x.2.2.2.2.2.2.2.2.2.1, .int x.2.2.2.2.2.2.2.2.2.2.1, .int x.2.2.2.2.2.2.2.2.2.2.2]))], [(A (b + 1), .inl (gI g, 268, .inl x.1))], [(A (b + 2), .inl (gI g, 1340, .inl x.2.1))], [(A (b + 3), .inl (gI g, 268, .inl x.2.2.2.1))], [(A (b + 4), .inl (gC g, 70, .inl x.2.2.2.2.2.1))], [(A (b + 5), .inl (gI g, 3, .inl x.2.2.2.2.2.2.2.1))], [(A (b + 6), .inl (gI g, 144, .inl x.2.2.2.2.2.2.2.2.1))]] → ∀ ls : Array Slot, lv_has ls 7 [(0, .ref (A b)), (1, .int v28.1), (2, .int v28.2.1), (3, .int v19.2.2), (4, .int v28.2.2)] → W p l e R s m args below meth c H locs 0 0 Q (F0 m 28 ls []) := by
            intro n28
            induction n28 with
            | zero => intro v28 h; exact absurd (show none = some r from h) (fun h => by cases h)
            | succ n28 ih28 =>
              intro v28 h H locs hW ls hl
              replace h : f_X6_bestNight_l28 x (lpN (f_X6_bestNight_l19 x) n19) v19 (lpN (f_X6_bestNight_l28 x (lpN (f_X6_bestNight_l19 x) n19) v19) n28) v28 = some r := h
              unfold f_X6_bestNight_l28 at h
              refine lv_iload hx hb dX6_bestNight_28 (lv_at hl 4 rfl) ?_
              refine lv_bipush (v := 16) hx hb dX6_bestNight_30 (by decide) ?_
              refine lv_icmp_ge (tgt := 152) hx hb dX6_bestNight_32 (by decide) (fun e4 => ?_) (fun e4 => ?_)
              · replace h := q_t e4 h
                refine lv_iinc (v := (v19.2.2 + 1)) (lv' := [(3, .int (v19.2.2 + 1)), (0, .ref (A b)), (1, .int v28.1), (2, .int v28.2.1), (4, .int v28.2.2)]) hx hb dX6_bestNight_152 hl (k := 3) rfl rfl (by decide) rfl (fun ls hl => ?_)
                refine lv_goto (tgt := 19) hx hb dX6_bestNight_155 (by decide) ?_
                exact ih19 (v28.1, v28.2.1, (v19.2.2 + 1)) h _ _ hW _ (lv_sub hl [1, 2, 3, 0] rfl)
              · replace h := q_f e4 h
                refine lv_iload hx hb dX6_bestNight_35 (lv_at hl 4 rfl) ?_
                refine lv_iload_n hx hb dX6_bestNight_37 rfl (lv_at hl 3 rfl) ?_
                refine lv_isub hx hb dX6_bestNight_38 ?_
                refine lv_istore (lv' := [(5, .int (v28.2.2 - v19.2.2)), (0, .ref (A b)), (1, .int v28.1), (2, .int v28.2.1), (3, .int v19.2.2), (4, .int v28.2.2)]) hx hb dX6_bestNight_39 hl (by decide) rfl (fun ls hl => ?_)
                have L41 : ∀ n41 : Nat, ∀ (v41 : Int32 × Int32 × Int32), lpN (f_X6_bestNight_l41 x v19 (lpN (f_X6_bestNight_l28 x (lpN (f_X6_bestNight_l19 x) n19) v19) n28) v28) n41 v41 = some r → ∀ (H : Heap) (locs : List Loc), WdG g Z s.heap H locs [[(A b, .inr (6, [.ref (A (b + 1)), .ref (A (b + 2)), .int x.2.2.1, .ref (A (b + 3)), .int x.2.2.2.2.1, .ref (A (b + 4)), .int x.2.2.2.2.2.2.1, .ref (A (b + 5)), .ref (A (b + 6)), .int x.2.2.2.2.2.2.2.2.2.1, .int x.2.2.2.2.2.2.2.2.2.2.1, .int x.2.2.2.2.2.2.2.2.2.2.2]))], [(A (b + 1), .inl (gI g, 268, .inl x.1))], [(A (b + 2), .inl (gI g, 1340, .inl x.2.1))], [(A (b + 3), .inl (gI g, 268, .inl x.2.2.2.1))], [(A (b + 4), .inl (gC g, 70, .inl x.2.2.2.2.2.1))], [(A (b + 5), .inl (gI g, 3, .inl x.2.2.2.2.2.2.2.1))], [(A (b + 6), .inl (gI g, 144, .inl x.2.2.2.2.2.2.2.2.1))]] → ∀ ls : Array Slot, lv_has ls 7 [(0, .ref (A b)), (1, .int v41.1), (2, .int v41.2.1), (3, .int v19.2.2), (4, .int v28.2.2), (5, .int v41.2.2)] → W p l e R s m args below meth c H locs 0 0 Q (F0 m 41 ls []) := by
                  intro n41
                  induction n41 with
                  | zero => intro v41 h; exact absurd (show none = some r from h) (fun h => by cases h)
                  | succ n41 ih41 =>
                    intro v41 h H locs hW ls hl
                    replace h : f_X6_bestNight_l41 x v19 (lpN (f_X6_bestNight_l28 x (lpN (f_X6_bestNight_l19 x) n19) v19) n28) v28 (lpN (f_X6_bestNight_l41 x v19 (lpN (f_X6_bestNight_l28 x (lpN (f_X6_bestNight_l19 x) n19) v19) n28) v28) n41) v41 = some r := h
                    unfold f_X6_bestNight_l41 at h
                    refine lv_iload hx hb dX6_bestNight_41 (lv_at hl 5 rfl) ?_
                    refine lv_iload hx hb dX6_bestNight_43 (lv_at hl 4 rfl) ?_
                    refine lv_iload_n hx hb dX6_bestNight_45 rfl (lv_at hl 3 rfl) ?_
                    refine lv_iadd hx hb dX6_bestNight_46 ?_
                    refine lv_icmp_gt (tgt := 146) hx hb dX6_bestNight_47 (by decide) (fun e5 => ?_) (fun e5 => ?_)
                    · replace h := q_t e5 h
                      refine lv_iinc (v := (v28.2.2 + 1)) (lv' := [(4, .int (v28.2.2 + 1)), (0, .ref (A b)), (1, .int v41.1), (2, .int v41.2.1), (3, .int v19.2.2), (5, .int v41.2.2)]) hx hb dX6_bestNight_146 hl (k := 4) rfl rfl (by decide) rfl (fun ls hl => ?_)
                      refine lv_goto (tgt := 28) hx hb dX6_bestNight_149 (by decide) ?_
                      exact ih28 (v41.1, v41.2.1, (v28.2.2 + 1)) h _ _ hW _ (lv_sub hl [1, 2, 3, 4, 0] rfl)
                    · replace h := q_f e5 h
                      refine lv_iload hx hb dX6_bestNight_50 (lv_at hl 5 rfl) ?_
                      refine lv_iconst (v := 0) hx hb dX6_bestNight_52 (by decide) ?_
                      refine lv_bipush (v := 15) hx hb dX6_bestNight_53 (by decide) ?_
                      obtain ⟨t6, h7, h⟩ := q_b h
                      refine r_cSi C hW (nA := 3) (As := [.int v41.2.2, .int 0, .int 15]) (rest := []) (c_X6_in l g v41.2.2 0 15 _ h7) gX6_bestNight_X6_in rfl wo_X6_in (rmk hR rfl rfl) rfl rfl hl.1 (Nat.le_of_ble_eq_true rfl) rz dX6_bestNight_55 (n := 7) (is := []) (rs := [0, 1, 2, 3, 4, 5, 6]) (bs' := [[(A b, .inr (6, [.ref (A (b + 1)), .ref (A (b + 2)), .int x.2.2.1, .ref (A (b + 3)), .int x.2.2.2.2.1, .ref (A (b + 4)), .int x.2.2.2.2.2.2.1, .ref (A (b + 5)), .ref (A (b + 6)), .int x.2.2.2.2.2.2.2.2.2.1, .int x.2.2.2.2.2.2.2.2.2.2.1, .int x.2.2.2.2.2.2.2.2.2.2.2]))], [(A (b + 1), .inl (gI g, 268, .inl x.1))], [(A (b + 2), .inl (gI g, 1340, .inl x.2.1))], [(A (b + 3), .inl (gI g, 268, .inl x.2.2.2.1))], [(A (b + 4), .inl (gC g, 70, .inl x.2.2.2.2.2.1))], [(A (b + 5), .inl (gI g, 3, .inl x.2.2.2.2.2.2.2.1))], [(A (b + 6), .inl (gI g, 144, .inl x.2.2.2.2.2.2.2.2.1))]]) rfl rfl pm_38 rfl rfl rfl (fun H locs hW => ?_)
                      have J127 : ∀ (w127 : Int32 × Int32), f_X6_bestNight_j127 v19 (lpN (f_X6_bestNight_l41 x v19 (lpN (f_X6_bestNight_l28 x (lpN (f_X6_bestNight_l19 x) n19) v19) n28) v28) n41) v41 w127 = some r → ∀ (H : Heap) (locs : List Loc), WdG g Z s.heap H locs [[(A b, .inr (6, [.ref (A (b + 1)), .ref (A (b + 2)), .int x.2.2.1, .ref (A (b + 3)), .int x.2.2.2.2.1, .ref (A (b + 4)), .int x.2.2.2.2.2.2.1, .ref (A (b + 5)), .ref (A (b + 6)), .int x.2.2.2.2.2.2.2.2.2.1, .int x.2.2.2.2.2.2.2.2.2.2.1, .int x.2.2.2.2.2.2.2.2.2.2.2]))], [(A (b + 1), .inl (gI g, 268, .inl x.1))], [(A (b + 2), .inl (gI g, 1340, .inl x.2.1))], [(A (b + 3), .inl (gI g, 268, .inl x.2.2.2.1))], [(A (b + 4), .inl (gC g, 70, .inl x.2.2.2.2.2.1))], [(A (b + 5), .inl (gI g, 3, .inl x.2.2.2.2.2.2.2.1))], [(A (b + 6), .inl (gI g, 144, .inl x.2.2.2.2.2.2.2.2.1))]] → ∀ ls : Array Slot, lv_has ls 7 [(0, .ref (A b)), (1, .int w127.1), (2, .int w127.2), (3, .int v19.2.2), (4, .int v28.2.2), (5, .int v41.2.2)] → W p l e R s m args below meth c H locs 0 0 Q (F0 m 127 ls []) := by
                        intro w127 h H locs hW ls hl
                        unfold f_X6_bestNight_j127 at h
                        refine lv_iload hx hb dX6_bestNight_127 (lv_at hl 5 rfl) ?_
                        refine lv_iload_n hx hb dX6_bestNight_129 rfl (lv_at hl 3 rfl) ?_
                        refine lv_if_ne (tgt := 137) hx hb dX6_bestNight_130 (by decide) (fun e8 => ?_) (fun e8 => ?_)
                        · replace h := q_f e8 h
                          refine lv_iconst (v := 2) hx hb dX6_bestNight_137 (by decide) ?_
                          refine lv_iload_n hx hb dX6_bestNight_138 rfl (lv_at hl 3 rfl) ?_
                          refine lv_imul hx hb dX6_bestNight_139 ?_
                          refine lv_iadd hx hb dX6_bestNight_140 ?_
                          refine lv_istore (lv' := [(5, .int (v41.2.2 + (2 * v19.2.2))), (0, .ref (A b)), (1, .int w127.1), (2, .int w127.2), (3, .int v19.2.2), (4, .int v28.2.2)]) hx hb dX6_bestNight_141 hl (by decide) rfl (fun ls hl => ?_)
                          refine lv_goto (tgt := 41) hx hb dX6_bestNight_143 (by decide) ?_
                          exact ih41 (w127.1, w127.2, (v41.2.2 + (2 * v19.2.2))) h _ _ hW _ (lv_sub hl [1, 2, 3, 4, 5, 0] rfl)
                        · replace h := q_t e8 h
                          refine lv_iconst (v := 1) hx hb dX6_bestNight_133 (by decide) ?_
                          refine lv_goto (tgt := 140) hx hb dX6_bestNight_134 (by decide) ?_
                          refine lv_iadd hx hb dX6_bestNight_140 ?_
                          refine lv_istore (lv' := [(5, .int (v41.2.2 + 1)), (0, .ref (A b)), (1, .int w127.1), (2, .int w127.2), (3, .int v19.2.2), (4, .int v28.2.2)]) hx hb dX6_bestNight_141 hl (by decide) rfl (fun ls hl => ?_)
                          refine lv_goto (tgt := 41) hx hb dX6_bestNight_143 (by decide) ?_
                          exact ih41 (w127.1, w127.2, (v41.2.2 + 1)) h _ _ hW _ (lv_sub hl [1, 2, 3, 4, 5, 0] rfl)
                      refine lv_if_eq (tgt := 127) hx hb dX6_bestNight_58 (by decide) (fun e9 => ?_) (fun e9 => ?_)
                      · replace h := q_t e9 h
                        exact J127 (v41.1, v41.2.1) h _ _ hW _ (lv_sub hl [0, 1, 2, 3, 4, 5] rfl)
                      · replace h := q_f e9 h
                        refine lv_aload_n hx hb dX6_bestNight_61 rfl (lv_at hl 0 rfl) ?_
                        refine lv_iload hx hb dX6_bestNight_62 (lv_at hl 4 rfl) ?_
                        refine lv_iload hx hb dX6_bestNight_64 (lv_at hl 5 rfl) ?_
                        have J76 : ∀ (w76 : Int32), f_X6_bestNight_j76 x v19 v28 (lpN (f_X6_bestNight_l41 x v19 (lpN (f_X6_bestNight_l28 x (lpN (f_X6_bestNight_l19 x) n19) v19) n28) v28) n41) v41 w76 = some r → ∀ (H : Heap) (locs : List Loc), WdG g Z s.heap H locs [[(A b, .inr (6, [.ref (A (b + 1)), .ref (A (b + 2)), .int x.2.2.1, .ref (A (b + 3)), .int x.2.2.2.2.1, .ref (A (b + 4)), .int x.2.2.2.2.2.2.1, .ref (A (b + 5)), .ref (A (b + 6)), .int x.2.2.2.2.2.2.2.2.2.1, .int x.2.2.2.2.2.2.2.2.2.2.1, .int x.2.2.2.2.2.2.2.2.2.2.2]))], [(A (b + 1), .inl (gI g, 268, .inl x.1))], [(A (b + 2), .inl (gI g, 1340, .inl x.2.1))], [(A (b + 3), .inl (gI g, 268, .inl x.2.2.2.1))], [(A (b + 4), .inl (gC g, 70, .inl x.2.2.2.2.2.1))], [(A (b + 5), .inl (gI g, 3, .inl x.2.2.2.2.2.2.2.1))], [(A (b + 6), .inl (gI g, 144, .inl x.2.2.2.2.2.2.2.2.1))]] → ∀ ls : Array Slot, lv_has ls 7 [(0, .ref (A b)), (1, .int v41.1), (2, .int v41.2.1), (3, .int v19.2.2), (4, .int v28.2.2), (5, .int v41.2.2)] → W p l e R s m args below meth c H locs 0 0 Q (F0 m 76 ls [.int w76, .ref (A b)]) := by
                          intro w76 h H locs hW ls hl
                          unfold f_X6_bestNight_j76 at h
                          refine lv_iload hx hb dX6_bestNight_76 (lv_at hl 4 rfl) ?_
                          refine lv_iload hx hb dX6_bestNight_78 (lv_at hl 5 rfl) ?_
                          have J90 : ∀ (w90 : Int32), f_X6_bestNight_j90 x v19 v28 (lpN (f_X6_bestNight_l41 x v19 (lpN (f_X6_bestNight_l28 x (lpN (f_X6_bestNight_l19 x) n19) v19) n28) v28) n41) v41 w76 w90 = some r → ∀ (H : Heap) (locs : List Loc), WdG g Z s.heap H locs [[(A b, .inr (6, [.ref (A (b + 1)), .ref (A (b + 2)), .int x.2.2.1, .ref (A (b + 3)), .int x.2.2.2.2.1, .ref (A (b + 4)), .int x.2.2.2.2.2.2.1, .ref (A (b + 5)), .ref (A (b + 6)), .int x.2.2.2.2.2.2.2.2.2.1, .int x.2.2.2.2.2.2.2.2.2.2.1, .int x.2.2.2.2.2.2.2.2.2.2.2]))], [(A (b + 1), .inl (gI g, 268, .inl x.1))], [(A (b + 2), .inl (gI g, 1340, .inl x.2.1))], [(A (b + 3), .inl (gI g, 268, .inl x.2.2.2.1))], [(A (b + 4), .inl (gC g, 70, .inl x.2.2.2.2.2.1))], [(A (b + 5), .inl (gI g, 3, .inl x.2.2.2.2.2.2.2.1))], [(A (b + 6), .inl (gI g, 144, .inl x.2.2.2.2.2.2.2.2.1))]] → ∀ ls : Array Slot, lv_has ls 7 [(0, .ref (A b)), (1, .int v41.1), (2, .int v41.2.1), (3, .int v19.2.2), (4, .int v28.2.2), (5, .int v41.2.2)] → W p l e R s m args below meth c H locs 0 0 Q (F0 m 90 ls [.int w90, .int w76, .ref (A b)]) := by
                            intro w90 h H locs hW ls hl
                            unfold f_X6_bestNight_j90 at h
                            obtain ⟨t10, h11, h⟩ := q_b h
                            refine r_cVi C hW (nA := 2) (As := [.int w76, .int w90]) (rest := []) (c_X6_wouldPaint l g A b x w76 w90 _ h11) gX6_bestNight_X6_wouldPaint rfl ⟨rfl, wo_X6_wouldPaint⟩ (rmk hR rfl rfl) rfl rfl rfl rfl hl.1 (Nat.le_of_ble_eq_true rfl) rz dX6_bestNight_90 (n := 7) (is := [0, 1, 2, 3, 4, 5, 6]) (rs := []) (bs' := [[(A b, .inr (6, [.ref (A (b + 1)), .ref (A (b + 2)), .int x.2.2.1, .ref (A (b + 3)), .int x.2.2.2.2.1, .ref (A (b + 4)), .int x.2.2.2.2.2.2.1, .ref (A (b + 5)), .ref (A (b + 6)), .int x.2.2.2.2.2.2.2.2.2.1, .int x.2.2.2.2.2.2.2.2.2.2.1, .int x.2.2.2.2.2.2.2.2.2.2.2]))], [(A (b + 1), .inl (gI g, 268, .inl x.1))], [(A (b + 2), .inl (gI g, 1340, .inl x.2.1))], [(A (b + 3), .inl (gI g, 268, .inl x.2.2.2.1))], [(A (b + 4), .inl (gC g, 70, .inl x.2.2.2.2.2.1))], [(A (b + 5), .inl (gI g, 3, .inl x.2.2.2.2.2.2.2.1))], [(A (b + 6), .inl (gI g, 144, .inl x.2.2.2.2.2.2.2.2.1))]]) rfl rfl pm_39 rfl rfl rfl (fun H locs hW => ?_)
                            refine lv_istore (lv' := [(6, .int t10), (0, .ref (A b)), (1, .int v41.1), (2, .int v41.2.1), (3, .int v19.2.2), (4, .int v28.2.2), (5, .int v41.2.2)]) hx hb dX6_bestNight_93 hl (by decide) rfl (fun ls hl => ?_)
                            refine lv_iload hx hb dX6_bestNight_95 (lv_at hl 0 rfl) ?_
                            refine lv_iload_n hx hb dX6_bestNight_97 rfl (lv_at hl 3 rfl) ?_
                            have J113 : ∀ (w113 : Int32), f_X6_bestNight_j113 v19 (lpN (f_X6_bestNight_l41 x v19 (lpN (f_X6_bestNight_l28 x (lpN (f_X6_bestNight_l19 x) n19) v19) n28) v28) n41) v41 t10 w113 = some r → ∀ (H : Heap) (locs : List Loc), WdG g Z s.heap H locs [[(A b, .inr (6, [.ref (A (b + 1)), .ref (A (b + 2)), .int x.2.2.1, .ref (A (b + 3)), .int x.2.2.2.2.1, .ref (A (b + 4)), .int x.2.2.2.2.2.2.1, .ref (A (b + 5)), .ref (A (b + 6)), .int x.2.2.2.2.2.2.2.2.2.1, .int x.2.2.2.2.2.2.2.2.2.2.1, .int x.2.2.2.2.2.2.2.2.2.2.2]))], [(A (b + 1), .inl (gI g, 268, .inl x.1))], [(A (b + 2), .inl (gI g, 1340, .inl x.2.1))], [(A (b + 3), .inl (gI g, 268, .inl x.2.2.2.1))], [(A (b + 4), .inl (gC g, 70, .inl x.2.2.2.2.2.1))], [(A (b + 5), .inl (gI g, 3, .inl x.2.2.2.2.2.2.2.1))], [(A (b + 6), .inl (gI g, 144, .inl x.2.2.2.2.2.2.2.2.1))]] → ∀ ls : Array Slot, lv_has ls 7 [(0, .ref (A b)), (2, .int v41.2.1), (3, .int v19.2.2), (4, .int v28.2.2), (5, .int v41.2.2), (6, .int t10)] → W p l e R s m args below meth c H locs 0 0 Q (F0 m 113 ls [.int w113]) := by
                              intro w113 h H locs hW ls hl
                              unfold f_X6_bestNight_j113 at h
                              refine lv_istore_n (lv' := [(1, .int w113), (0, .ref (A b)), (2, .int v41.2.1), (3, .int v19.2.2), (4, .int v28.2.2), (5, .int v41.2.2), (6, .int t10)]) hx hb dX6_bestNight_113 rfl hl (by decide) rfl (fun ls hl => ?_)
                              refine lv_iload hx hb dX6_bestNight_114 (lv_at hl 6 rfl) ?_
                              refine lv_iload_n hx hb dX6_bestNight_116 rfl (lv_at hl 2 rfl) ?_
                              have J126 : ∀ (w126 : Int32), f_X6_bestNight_j126 v19 (lpN (f_X6_bestNight_l41 x v19 (lpN (f_X6_bestNight_l28 x (lpN (f_X6_bestNight_l19 x) n19) v19) n28) v28) n41) v41 w113 w126 = some r → ∀ (H : Heap) (locs : List Loc), WdG g Z s.heap H locs [[(A b, .inr (6, [.ref (A (b + 1)), .ref (A (b + 2)), .int x.2.2.1, .ref (A (b + 3)), .int x.2.2.2.2.1, .ref (A (b + 4)), .int x.2.2.2.2.2.2.1, .ref (A (b + 5)), .ref (A (b + 6)), .int x.2.2.2.2.2.2.2.2.2.1, .int x.2.2.2.2.2.2.2.2.2.2.1, .int x.2.2.2.2.2.2.2.2.2.2.2]))], [(A (b + 1), .inl (gI g, 268, .inl x.1))], [(A (b + 2), .inl (gI g, 1340, .inl x.2.1))], [(A (b + 3), .inl (gI g, 268, .inl x.2.2.2.1))], [(A (b + 4), .inl (gC g, 70, .inl x.2.2.2.2.2.1))], [(A (b + 5), .inl (gI g, 3, .inl x.2.2.2.2.2.2.2.1))], [(A (b + 6), .inl (gI g, 144, .inl x.2.2.2.2.2.2.2.2.1))]] → ∀ ls : Array Slot, lv_has ls 7 [(0, .ref (A b)), (1, .int w113), (3, .int v19.2.2), (4, .int v28.2.2), (5, .int v41.2.2)] → W p l e R s m args below meth c H locs 0 0 Q (F0 m 126 ls [.int w126]) := by
                                intro w126 h H locs hW ls hl
                                unfold f_X6_bestNight_j126 at h
                                refine lv_istore_n (lv' := [(2, .int w126), (0, .ref (A b)), (1, .int w113), (3, .int v19.2.2), (4, .int v28.2.2), (5, .int v41.2.2)]) hx hb dX6_bestNight_126 rfl hl (by decide) rfl (fun ls hl => ?_)
                                exact J127 (w113, w126) h _ _ hW _ (lv_sub hl [1, 2, 0, 3, 4, 5] rfl)
                              refine lv_icmp_le (tgt := 125) hx hb dX6_bestNight_117 (by decide) (fun e12 => ?_) (fun e12 => ?_)
                              · replace h := q_t e12 h
                                refine lv_iload_n hx hb dX6_bestNight_125 rfl (lv_at hl 2 rfl) ?_
                                exact J126 v41.2.1 h _ _ hW _ (lv_sub hl [1, 0, 3, 4, 5] rfl)
                              · replace h := q_f e12 h
                                refine lv_iload hx hb dX6_bestNight_120 (lv_at hl 6 rfl) ?_
                                refine lv_goto (tgt := 126) hx hb dX6_bestNight_122 (by decide) ?_
                                exact J126 t10 h _ _ hW _ (lv_sub hl [1, 0, 3, 4, 5] rfl)
                            refine lv_icmp_le (tgt := 112) hx hb dX6_bestNight_98 (by decide) (fun e13 => ?_) (fun e13 => ?_)
                            · replace h := q_t e13 h
                              refine lv_iload_n hx hb dX6_bestNight_112 rfl (lv_at hl 2 rfl) ?_
                              exact J113 v41.1 h _ _ hW _ (lv_sub hl [1, 3, 4, 5, 6, 0] rfl)
                            · replace h := q_f e13 h
                              refine lv_bipush (v := 16) hx hb dX6_bestNight_101 (by decide) ?_
                              refine lv_iload hx hb dX6_bestNight_103 (lv_at hl 5 rfl) ?_
                              refine lv_imul hx hb dX6_bestNight_105 ?_
                              refine lv_iload hx hb dX6_bestNight_106 (lv_at hl 6 rfl) ?_
                              refine lv_iadd hx hb dX6_bestNight_108 ?_
                              refine lv_goto (tgt := 113) hx hb dX6_bestNight_109 (by decide) ?_
                              exact J113 ((16 * v28.2.2) + v41.2.2) h _ _ hW _ (lv_sub hl [1, 3, 4, 5, 6, 0] rfl)
                          refine lv_icmp_ge (tgt := 88) hx hb dX6_bestNight_80 (by decide) (fun e14 => ?_) (fun e14 => ?_)
                          · replace h := q_t e14 h
                            refine lv_iload hx hb dX6_bestNight_88 (lv_at hl 4 rfl) ?_
                            exact J90 v28.2.2 h _ _ hW _ (lv_sub hl [0, 1, 2, 3, 4, 5] rfl)
                          · replace h := q_f e14 h
                            refine lv_iload hx hb dX6_bestNight_83 (lv_at hl 5 rfl) ?_
                            refine lv_goto (tgt := 90) hx hb dX6_bestNight_85 (by decide) ?_
                            exact J90 v41.2.2 h _ _ hW _ (lv_sub hl [0, 1, 2, 3, 4, 5] rfl)
                        refine lv_icmp_ge (tgt := 74) hx hb dX6_bestNight_66 (by decide) (fun e15 => ?_) (fun e15 => ?_)
                        · replace h := q_t e15 h
                          refine lv_iload hx hb dX6_bestNight_74 (lv_at hl 5 rfl) ?_
                          exact J76 v41.2.2 h _ _ hW _ (lv_sub hl [0, 1, 2, 3, 4, 5] rfl)
                        · replace h := q_f e15 h
                          refine lv_iload hx hb dX6_bestNight_69 (lv_at hl 4 rfl) ?_
                          refine lv_goto (tgt := 76) hx hb dX6_bestNight_71 (by decide) ?_
                          exact J76 v28.2.2 h _ _ hW _ (lv_sub hl [0, 1, 2, 3, 4, 5] rfl)
                exact L41 3000 (v28.1, v28.2.1, (v28.2.2 - v19.2.2)) h _ _ hW _ (lv_sub hl [1, 2, 3, 4, 5, 0] rfl)
          exact L28 3000 (v19.1, v19.2.1, 0) h _ _ hW _ (lv_sub hl [1, 2, 3, 4, 0] rfl)
    exact L19 3000 ((-6), 0, 0) h _ _ hW _ (lv_sub hl [3, 2, 1, 0] rfl)
  · replace h := q_t e2 h
    refine lv_bipush (v := (-3)) hx hb dX6_bestNight_9 (by decide) ?_
    cases h
    exact E _ _ _ _ _ hW rfl rfl dX6_bestNight_11
