def f_X6_save_l7 (k7 : (Int32 × TX6s) → Option (Int32 × TX6s)) (v7 : Int32 × TX6s) : Option (Int32 × TX6s) :=
if 268 ≤ v7.1 then (
if (6 : Int32) < 0 ∨ 268 ≤ (6 : Int32).toNatClampNeg then none else
some ((v7.2.1 (6 : Int32).toNatClampNeg), v7.2))
else (
if v7.1 < 0 ∨ 268 ≤ (v7.1).toNatClampNeg then none else
if v7.1 < 0 ∨ 268 ≤ (v7.1).toNatClampNeg then none else
k7 ((v7.1 + 1), (v7.2.1, v7.2.2.1, v7.2.2.2.1, (upd v7.2.2.2.2.1 (v7.1).toNatClampNeg (v7.2.1 (v7.1).toNatClampNeg)), v7.2.2.2.2.2.1, v7.2.2.2.2.2.2.1, v7.2.2.2.2.2.2.2.1, v7.2.2.2.2.2.2.2.2.1, v7.2.2.2.2.2.2.2.2.2.1, v7.2.2.2.2.2.2.2.2.2.2.1, v7.2.2.2.2.2.2.2.2.2.2.2.1, v7.2.2.2.2.2.2.2.2.2.2.2.2)))
def f_X6_save (x : TX6s) : Option (Int32 × TX6s) :=
lpN f_X6_save_l7 3000 (0, (x.1, x.2.1, x.2.2.1, x.2.2.2.1, 1, x.2.2.2.2.2.1, x.2.2.2.2.2.2.1, x.2.2.2.2.2.2.2.1, x.2.2.2.2.2.2.2.2.1, x.2.2.2.2.2.2.2.2.2.1, x.2.2.2.2.2.2.2.2.2.2.1, x.2.2.2.2.2.2.2.2.2.2.2))
theorem wo_X6_save : wordsOk yX6_save 0 := by decide +kernel
theorem inX6_save_X6 : ∀ w ∈ wsX60, w ∈ wsX6_save := fun _ h => List.mem_cons_of_mem _ (List.mem_append_right _ h)
set_option maxHeartbeats 4000000 in
set_option maxRecDepth 100000 in
theorem c_X6_save (l : Launch) (g : GG) (A : Nat → Nat) (b : Nat) (x : TX6s) (r : Int32) (x' : TX6s) (h : f_X6_save x = some (r, x')) : CI l yX6_save wsX6_save 0 0 g [.ref (A b)] (wX6 g A b x) r (wX6 g A b x') := by
  refine CI.mk (own := RX6) (by decide) rfl rfl (Nat.le_of_ble_eq_true rfl) ?_
  intro p e R s m args below meth c Z Q C E hR H hW ls hl
  have hx := C.1.1
  have hb := C.1.2.1
  have hown := C.1.2.2.2.1
  replace hW : WdG g Z s.heap H [] [[(A b, .inr (6, [.ref (A (b + 1)), .ref (A (b + 2)), .int x.2.2.1, .ref (A (b + 3)), .int x.2.2.2.2.1, .ref (A (b + 4)), .int x.2.2.2.2.2.2.1, .ref (A (b + 5)), .ref (A (b + 6)), .int x.2.2.2.2.2.2.2.2.2.1, .int x.2.2.2.2.2.2.2.2.2.2.1, .int x.2.2.2.2.2.2.2.2.2.2.2]))], [(A (b + 1), .inl (gI g, 268, .inl x.1))], [(A (b + 2), .inl (gI g, 1340, .inl x.2.1))], [(A (b + 3), .inl (gI g, 268, .inl x.2.2.2.1))], [(A (b + 4), .inl (gC g, 70, .inl x.2.2.2.2.2.1))], [(A (b + 5), .inl (gI g, 3, .inl x.2.2.2.2.2.2.2.1))], [(A (b + 6), .inl (gI g, 144, .inl x.2.2.2.2.2.2.2.2.1))]] := hW.re rfl
  replace hl : lv_has ls 2 [(0, .ref (A b))] := hl
  unfold f_X6_save at h
  refine lv_aload_n hx hb dX6_save_0 rfl (lv_at hl 0 rfl) ?_
  refine lv_iconst (v := 1) hx hb dX6_save_1 (by decide) ?_
  refine r_put C hW (bs' := [[(A b, .inr (6, [.ref (A (b + 1)), .ref (A (b + 2)), .int x.2.2.1, .ref (A (b + 3)), .int 1, .ref (A (b + 4)), .int x.2.2.2.2.2.2.1, .ref (A (b + 5)), .ref (A (b + 6)), .int x.2.2.2.2.2.2.2.2.2.1, .int x.2.2.2.2.2.2.2.2.2.2.1, .int x.2.2.2.2.2.2.2.2.2.2.2]))], [(A (b + 1), .inl (gI g, 268, .inl x.1))], [(A (b + 2), .inl (gI g, 1340, .inl x.2.1))], [(A (b + 3), .inl (gI g, 268, .inl x.2.2.2.1))], [(A (b + 4), .inl (gC g, 70, .inl x.2.2.2.2.2.1))], [(A (b + 5), .inl (gI g, 3, .inl x.2.2.2.2.2.2.2.1))], [(A (b + 6), .inl (gI g, 144, .inl x.2.2.2.2.2.2.2.2.1))]]) (K := RX6) (T := TX6) (N := 12) 0 0 4 rfl rfl rfl inX6_save_X6 tyX6 tyX6_ok nmX6 (by decide) (List.mem_of_getElem? (i := 1) rfl) rfl rfl (tyX6_ok 4 (by decide)) rfl rfl (Nat.le_of_ble_eq_true rfl) dX6_save_2 rfl (fun H locs hW => ?_)
  refine lv_iconst (v := 0) hx hb dX6_save_5 (by decide) ?_
  refine lv_istore_n (lv' := [(1, .int 0), (0, .ref (A b))]) hx hb dX6_save_6 rfl hl (by decide) rfl (fun ls hl => ?_)
  have L7 : ∀ n7 : Nat, ∀ (v7 : Int32 × TX6s), lpN f_X6_save_l7 n7 v7 = some (r, x') → ∀ (H : Heap) (locs : List Loc), WdG g Z s.heap H locs [[(A b, .inr (6, [.ref (A (b + 1)), .ref (A (b + 2)), .int v7.2.2.2.1, .ref (A (b + 3)), .int v7.2.2.2.2.2.1, .ref (A (b + 4)), .int v7.2.2.2.2.2.2.2.1, .ref (A (b + 5)), .ref (A (b + 6)), .int v7.2.2.2.2.2.2.2.2.2.2.1, .int v7.2.2.2.2.2.2.2.2.2.2.2.1, .int v7.2.2.2.2.2.2.2.2.2.2.2.2]))], [(A (b + 1), .inl (gI g, 268, .inl v7.2.1))], [(A (b + 2), .inl (gI g, 1340, .inl v7.2.2.1))], [(A (b + 3), .inl (gI g, 268, .inl v7.2.2.2.2.1))], [(A (b + 4), .inl (gC g, 70, .inl v7.2.2.2.2.2.2.1))], [(A (b + 5), .inl (gI g, 3, .inl v7.2.2.2.2.2.2.2.2.1))], [(A (b + 6), .inl (gI g, 144, .inl v7.2.2.2.2.2.2.2.2.2.1))]] → ∀ ls : Array Slot, lv_has ls 2 [(0, .ref (A b)), (1, .int v7.1)] → W p l e R s m args below meth c H locs 0 0 Q (F0 m 7 ls []) := by
    intro n7
    induction n7 with
    | zero => intro v7 h; exact absurd (show none = some (r, x') from h) (fun h => by cases h)
    | succ n7 ih7 =>
      intro v7 h H locs hW ls hl
      replace h : f_X6_save_l7 (lpN f_X6_save_l7 n7) v7 = some (r, x') := h
      unfold f_X6_save_l7 at h
      refine lv_iload_n hx hb dX6_save_7 rfl (lv_at hl 1 rfl) ?_
      refine lv_sipush (v := 268) hx hb dX6_save_8 (by decide) ?_
      refine lv_icmp_ge (tgt := 32) hx hb dX6_save_11 (by decide) (fun e1 => ?_) (fun e1 => ?_)
      · replace h := q_t e1 h
        refine lv_aload_n hx hb dX6_save_32 rfl (lv_at hl 0 rfl) ?_
        refine r_get C hW (K := RX6) (T := TX6) (N := 12) (v := .ref (A (b + 1))) 0 0 0 rfl rfl rfl inX6_save_X6 (by decide) (List.mem_of_getElem? (i := 3) rfl) rfl rfl dX6_save_33 ?_
        refine lv_bipush (v := 6) hx hb dX6_save_36 (by decide) ?_
        obtain ⟨g2, h⟩ := q_g h
        refine r_iald C hW 1 0 rfl rfl g2 dX6_save_38 ?_
        cases h
        exact E _ _ _ _ _ hW rfl rfl dX6_save_39
      · replace h := q_f e1 h
        refine lv_aload_n hx hb dX6_save_14 rfl (lv_at hl 0 rfl) ?_
        refine r_get C hW (K := RX6) (T := TX6) (N := 12) (v := .ref (A (b + 3))) 0 0 3 rfl rfl rfl inX6_save_X6 (by decide) (List.mem_of_getElem? (i := 2) rfl) rfl rfl dX6_save_15 ?_
        refine lv_iload_n hx hb dX6_save_18 rfl (lv_at hl 1 rfl) ?_
        refine lv_aload_n hx hb dX6_save_19 rfl (lv_at hl 0 rfl) ?_
        refine r_get C hW (K := RX6) (T := TX6) (N := 12) (v := .ref (A (b + 1))) 0 0 0 rfl rfl rfl inX6_save_X6 (by decide) (List.mem_of_getElem? (i := 3) rfl) rfl rfl dX6_save_20 ?_
        refine lv_iload_n hx hb dX6_save_23 rfl (lv_at hl 1 rfl) ?_
        obtain ⟨g3, h⟩ := q_g h
        refine r_iald C hW 1 0 rfl rfl g3 dX6_save_24 ?_
        obtain ⟨g4, h⟩ := q_g h
        refine r_iast C hW (bs' := [[(A b, .inr (6, [.ref (A (b + 1)), .ref (A (b + 2)), .int v7.2.2.2.1, .ref (A (b + 3)), .int v7.2.2.2.2.2.1, .ref (A (b + 4)), .int v7.2.2.2.2.2.2.2.1, .ref (A (b + 5)), .ref (A (b + 6)), .int v7.2.2.2.2.2.2.2.2.2.2.1, .int v7.2.2.2.2.2.2.2.2.2.2.2.1, .int v7.2.2.2.2.2.2.2.2.2.2.2.2]))], [(A (b + 1), .inl (gI g, 268, .inl v7.2.1))], [(A (b + 2), .inl (gI g, 1340, .inl v7.2.2.1))], [(A (b + 3), .inl (gI g, 268, .inl (upd v7.2.2.2.2.1 (v7.1).toNatClampNeg (v7.2.1 (v7.1).toNatClampNeg))))], [(A (b + 4), .inl (gC g, 70, .inl v7.2.2.2.2.2.2.1))], [(A (b + 5), .inl (gI g, 3, .inl v7.2.2.2.2.2.2.2.2.1))], [(A (b + 6), .inl (gI g, 144, .inl v7.2.2.2.2.2.2.2.2.2.1))]]) 3 0 rfl rfl g4 dX6_save_25 rfl (fun H locs hW => ?_)
        refine lv_iinc (v := (v7.1 + 1)) (lv' := [(1, .int (v7.1 + 1)), (0, .ref (A b))]) hx hb dX6_save_26 hl (k := 1) rfl rfl (by decide) rfl (fun ls hl => ?_)
        refine lv_goto (tgt := 7) hx hb dX6_save_29 (by decide) ?_
        exact ih7 ((v7.1 + 1), (v7.2.1, v7.2.2.1, v7.2.2.2.1, (upd v7.2.2.2.2.1 (v7.1).toNatClampNeg (v7.2.1 (v7.1).toNatClampNeg)), v7.2.2.2.2.2.1, v7.2.2.2.2.2.2.1, v7.2.2.2.2.2.2.2.1, v7.2.2.2.2.2.2.2.2.1, v7.2.2.2.2.2.2.2.2.2.1, v7.2.2.2.2.2.2.2.2.2.2.1, v7.2.2.2.2.2.2.2.2.2.2.2.1, v7.2.2.2.2.2.2.2.2.2.2.2.2)) h _ _ hW _ (lv_sub hl [1, 0] rfl)
  exact L7 3000 (0, (x.1, x.2.1, x.2.2.1, x.2.2.2.1, 1, x.2.2.2.2.2.1, x.2.2.2.2.2.2.1, x.2.2.2.2.2.2.2.1, x.2.2.2.2.2.2.2.2.1, x.2.2.2.2.2.2.2.2.2.1, x.2.2.2.2.2.2.2.2.2.2.1, x.2.2.2.2.2.2.2.2.2.2.2)) h _ _ hW _ (lv_sub hl [1, 0] rfl)
def f_X6_restore_l16 (k16 : (Int32 × TX6s) → Option (Int32 × TX6s)) (v16 : Int32 × TX6s) : Option (Int32 × TX6s) :=
if 268 ≤ v16.1 then (
if (6 : Int32) < 0 ∨ 268 ≤ (6 : Int32).toNatClampNeg then none else
some ((v16.2.1 (6 : Int32).toNatClampNeg), v16.2))
else (
if v16.1 < 0 ∨ 268 ≤ (v16.1).toNatClampNeg then none else
if v16.1 < 0 ∨ 268 ≤ (v16.1).toNatClampNeg then none else
k16 ((v16.1 + 1), ((upd v16.2.1 (v16.1).toNatClampNeg (v16.2.2.2.2.1 (v16.1).toNatClampNeg)), v16.2.2.1, v16.2.2.2.1, v16.2.2.2.2.1, v16.2.2.2.2.2.1, v16.2.2.2.2.2.2.1, v16.2.2.2.2.2.2.2.1, v16.2.2.2.2.2.2.2.2.1, v16.2.2.2.2.2.2.2.2.2.1, v16.2.2.2.2.2.2.2.2.2.2.1, v16.2.2.2.2.2.2.2.2.2.2.2.1, v16.2.2.2.2.2.2.2.2.2.2.2.2)))
def f_X6_restore (x : TX6s) : Option (Int32 × TX6s) :=
if x.2.2.2.2.1 = 0 then (
some ((-3), x))
else (
(f_X6_record x).bind fun t2 =>
lpN f_X6_restore_l16 3000 (0, t2))
theorem wo_X6_restore : wordsOk yX6_restore 0 := by decide +kernel
theorem inX6_restore_X6 : ∀ w ∈ wsX60, w ∈ wsX6_restore := fun _ h => List.mem_cons_of_mem _ (List.mem_append_right _ h)
set_option maxHeartbeats 4000000 in
set_option maxRecDepth 100000 in
theorem c_X6_restore (l : Launch) (g : GG) (A : Nat → Nat) (b : Nat) (x : TX6s) (r : Int32) (x' : TX6s) (h : f_X6_restore x = some (r, x')) : CI l yX6_restore wsX6_restore 1 21 g [.ref (A b)] (wX6 g A b x) r (wX6 g A b x') := by
  refine CI.mk (own := RX6) (by decide) rfl rfl (Nat.le_of_ble_eq_true rfl) ?_
  intro p e R s m args below meth c Z Q C E hR H hW ls hl
  have hx := C.1.1
  have hb := C.1.2.1
  have hown := C.1.2.2.2.1
  replace hW : WdG g Z s.heap H [] [[(A b, .inr (6, [.ref (A (b + 1)), .ref (A (b + 2)), .int x.2.2.1, .ref (A (b + 3)), .int x.2.2.2.2.1, .ref (A (b + 4)), .int x.2.2.2.2.2.2.1, .ref (A (b + 5)), .ref (A (b + 6)), .int x.2.2.2.2.2.2.2.2.2.1, .int x.2.2.2.2.2.2.2.2.2.2.1, .int x.2.2.2.2.2.2.2.2.2.2.2]))], [(A (b + 1), .inl (gI g, 268, .inl x.1))], [(A (b + 2), .inl (gI g, 1340, .inl x.2.1))], [(A (b + 3), .inl (gI g, 268, .inl x.2.2.2.1))], [(A (b + 4), .inl (gC g, 70, .inl x.2.2.2.2.2.1))], [(A (b + 5), .inl (gI g, 3, .inl x.2.2.2.2.2.2.2.1))], [(A (b + 6), .inl (gI g, 144, .inl x.2.2.2.2.2.2.2.2.1))]] := hW.re rfl
  replace hl : lv_has ls 2 [(0, .ref (A b))] := hl
  unfold f_X6_restore at h
  refine lv_aload_n hx hb dX6_restore_0 rfl (lv_at hl 0 rfl) ?_
  refine r_get C hW (K := RX6) (T := TX6) (N := 12) (v := .int x.2.2.2.2.1) 0 0 4 rfl rfl rfl inX6_restore_X6 (by decide) (List.mem_of_getElem? (i := 1) rfl) rfl rfl dX6_restore_1 ?_
  refine lv_if_ne (tgt := 10) hx hb dX6_restore_4 (by decide) (fun e1 => ?_) (fun e1 => ?_)
  · replace h := q_f e1 h
    refine lv_aload_n hx hb dX6_restore_10 rfl (lv_at hl 0 rfl) ?_
    obtain ⟨t2, h3, h⟩ := q_b h
    refine r_cVv C hW (nA := 0) (As := []) (rest := []) (c_X6_record l g A b x _ h3) gX6_restore_X6_record rfl ⟨rfl, wo_X6_record⟩ (rmk hR rfl rfl) rfl rfl rfl rfl hl.1 (Nat.le_of_ble_eq_true rfl) rz dX6_restore_11 (n := 7) (is := [0, 1, 2, 3, 4, 5, 6]) (rs := []) (bs' := [[(A b, .inr (6, [.ref (A (b + 1)), .ref (A (b + 2)), .int t2.2.2.1, .ref (A (b + 3)), .int t2.2.2.2.2.1, .ref (A (b + 4)), .int t2.2.2.2.2.2.2.1, .ref (A (b + 5)), .ref (A (b + 6)), .int t2.2.2.2.2.2.2.2.2.2.1, .int t2.2.2.2.2.2.2.2.2.2.2.1, .int t2.2.2.2.2.2.2.2.2.2.2.2]))], [(A (b + 1), .inl (gI g, 268, .inl t2.1))], [(A (b + 2), .inl (gI g, 1340, .inl t2.2.1))], [(A (b + 3), .inl (gI g, 268, .inl t2.2.2.2.1))], [(A (b + 4), .inl (gC g, 70, .inl t2.2.2.2.2.2.1))], [(A (b + 5), .inl (gI g, 3, .inl t2.2.2.2.2.2.2.2.1))], [(A (b + 6), .inl (gI g, 144, .inl t2.2.2.2.2.2.2.2.2.1))]]) rfl rfl pm_39 rfl rfl rfl (fun H locs hW => ?_)
    refine lv_iconst (v := 0) hx hb dX6_restore_14 (by decide) ?_
    refine lv_istore_n (lv' := [(1, .int 0), (0, .ref (A b))]) hx hb dX6_restore_15 rfl hl (by decide) rfl (fun ls hl => ?_)
    have L16 : ∀ n16 : Nat, ∀ (v16 : Int32 × TX6s), lpN f_X6_restore_l16 n16 v16 = some (r, x') → ∀ (H : Heap) (locs : List Loc), WdG g Z s.heap H locs [[(A b, .inr (6, [.ref (A (b + 1)), .ref (A (b + 2)), .int v16.2.2.2.1, .ref (A (b + 3)), .int v16.2.2.2.2.2.1, .ref (A (b + 4)), .int v16.2.2.2.2.2.2.2.1, .ref (A (b + 5)), .ref (A (b + 6)), .int v16.2.2.2.2.2.2.2.2.2.2.1, .int v16.2.2.2.2.2.2.2.2.2.2.2.1, .int v16.2.2.2.2.2.2.2.2.2.2.2.2]))], [(A (b + 1), .inl (gI g, 268, .inl v16.2.1))], [(A (b + 2), .inl (gI g, 1340, .inl v16.2.2.1))], [(A (b + 3), .inl (gI g, 268, .inl v16.2.2.2.2.1))], [(A (b + 4), .inl (gC g, 70, .inl v16.2.2.2.2.2.2.1))], [(A (b + 5), .inl (gI g, 3, .inl v16.2.2.2.2.2.2.2.2.1))], [(A (b + 6), .inl (gI g, 144, .inl v16.2.2.2.2.2.2.2.2.2.1))]] → ∀ ls : Array Slot, lv_has ls 2 [(0, .ref (A b)), (1, .int v16.1)] → W p l e R s m args below meth c H locs 0 0 Q (F0 m 16 ls []) := by
      intro n16
      induction n16 with
      | zero => intro v16 h; exact absurd (show none = some (r, x') from h) (fun h => by cases h)
      | succ n16 ih16 =>
        intro v16 h H locs hW ls hl
        replace h : f_X6_restore_l16 (lpN f_X6_restore_l16 n16) v16 = some (r, x') := h
        unfold f_X6_restore_l16 at h
        refine lv_iload_n hx hb dX6_restore_16 rfl (lv_at hl 1 rfl) ?_
        refine lv_sipush (v := 268) hx hb dX6_restore_17 (by decide) ?_
        refine lv_icmp_ge (tgt := 41) hx hb dX6_restore_20 (by decide) (fun e4 => ?_) (fun e4 => ?_)
        · replace h := q_t e4 h
          refine lv_aload_n hx hb dX6_restore_41 rfl (lv_at hl 0 rfl) ?_
          refine r_get C hW (K := RX6) (T := TX6) (N := 12) (v := .ref (A (b + 1))) 0 0 0 rfl rfl rfl inX6_restore_X6 (by decide) (List.mem_of_getElem? (i := 2) rfl) rfl rfl dX6_restore_42 ?_
          refine lv_bipush (v := 6) hx hb dX6_restore_45 (by decide) ?_
          obtain ⟨g5, h⟩ := q_g h
          refine r_iald C hW 1 0 rfl rfl g5 dX6_restore_47 ?_
          cases h
          exact E _ _ _ _ _ hW rfl rfl dX6_restore_48
        · replace h := q_f e4 h
          refine lv_aload_n hx hb dX6_restore_23 rfl (lv_at hl 0 rfl) ?_
          refine r_get C hW (K := RX6) (T := TX6) (N := 12) (v := .ref (A (b + 1))) 0 0 0 rfl rfl rfl inX6_restore_X6 (by decide) (List.mem_of_getElem? (i := 2) rfl) rfl rfl dX6_restore_24 ?_
          refine lv_iload_n hx hb dX6_restore_27 rfl (lv_at hl 1 rfl) ?_
          refine lv_aload_n hx hb dX6_restore_28 rfl (lv_at hl 0 rfl) ?_
          refine r_get C hW (K := RX6) (T := TX6) (N := 12) (v := .ref (A (b + 3))) 0 0 3 rfl rfl rfl inX6_restore_X6 (by decide) (List.mem_of_getElem? (i := 3) rfl) rfl rfl dX6_restore_29 ?_
          refine lv_iload_n hx hb dX6_restore_32 rfl (lv_at hl 1 rfl) ?_
          obtain ⟨g6, h⟩ := q_g h
          refine r_iald C hW 3 0 rfl rfl g6 dX6_restore_33 ?_
          obtain ⟨g7, h⟩ := q_g h
          refine r_iast C hW (bs' := [[(A b, .inr (6, [.ref (A (b + 1)), .ref (A (b + 2)), .int v16.2.2.2.1, .ref (A (b + 3)), .int v16.2.2.2.2.2.1, .ref (A (b + 4)), .int v16.2.2.2.2.2.2.2.1, .ref (A (b + 5)), .ref (A (b + 6)), .int v16.2.2.2.2.2.2.2.2.2.2.1, .int v16.2.2.2.2.2.2.2.2.2.2.2.1, .int v16.2.2.2.2.2.2.2.2.2.2.2.2]))], [(A (b + 1), .inl (gI g, 268, .inl (upd v16.2.1 (v16.1).toNatClampNeg (v16.2.2.2.2.1 (v16.1).toNatClampNeg))))], [(A (b + 2), .inl (gI g, 1340, .inl v16.2.2.1))], [(A (b + 3), .inl (gI g, 268, .inl v16.2.2.2.2.1))], [(A (b + 4), .inl (gC g, 70, .inl v16.2.2.2.2.2.2.1))], [(A (b + 5), .inl (gI g, 3, .inl v16.2.2.2.2.2.2.2.2.1))], [(A (b + 6), .inl (gI g, 144, .inl v16.2.2.2.2.2.2.2.2.2.1))]]) 1 0 rfl rfl g7 dX6_restore_34 rfl (fun H locs hW => ?_)
          refine lv_iinc (v := (v16.1 + 1)) (lv' := [(1, .int (v16.1 + 1)), (0, .ref (A b))]) hx hb dX6_restore_35 hl (k := 1) rfl rfl (by decide) rfl (fun ls hl => ?_)
          refine lv_goto (tgt := 16) hx hb dX6_restore_38 (by decide) ?_
          exact ih16 ((v16.1 + 1), ((upd v16.2.1 (v16.1).toNatClampNeg (v16.2.2.2.2.1 (v16.1).toNatClampNeg)), v16.2.2.1, v16.2.2.2.1, v16.2.2.2.2.1, v16.2.2.2.2.2.1, v16.2.2.2.2.2.2.1, v16.2.2.2.2.2.2.2.1, v16.2.2.2.2.2.2.2.2.1, v16.2.2.2.2.2.2.2.2.2.1, v16.2.2.2.2.2.2.2.2.2.2.1, v16.2.2.2.2.2.2.2.2.2.2.2.1, v16.2.2.2.2.2.2.2.2.2.2.2.2)) h _ _ hW _ (lv_sub hl [1, 0] rfl)
    exact L16 3000 (0, t2) h _ _ hW _ (lv_sub hl [1, 0] rfl)
  · replace h := q_t e1 h
    refine lv_bipush (v := (-3)) hx hb dX6_restore_7 (by decide) ?_
    cases h
    exact E _ _ _ _ _ hW rfl rfl dX6_restore_9
def f_X6_meets_j9 (p2 : Int32) (w9 : Unit) : Option (Int32) :=
if p2 = 1 then (
some 1)
else (
if p2 = 2 then (
some 1)
else (
some 0))
def f_X6_meets (p1 : Int32) (p2 : Int32) : Option (Int32) :=
if p1 = 0 then (
f_X6_meets_j9 p2 ())
else (
if p1 = 2 then (
f_X6_meets_j9 p2 ())
else (
some 0))
theorem wo_X6_meets : wordsOk yX6_meets 2 := by decide +kernel
set_option maxHeartbeats 4000000 in
set_option maxRecDepth 100000 in
theorem c_X6_meets (l : Launch) (g : GG) (p1 : Int32) (p2 : Int32) (r : Int32) (h : f_X6_meets p1 p2 = some r) : CI l yX6_meets wsX6_meets 0 0 g [.int p1, .int p2] ([]) r ([]) := by
  refine CI.mk (own := RX6) (by decide) rfl rfl (Nat.le_of_ble_eq_true rfl) ?_
  intro p e R s m args below meth c Z Q C E hR H hW ls hl
  have hx := C.1.1
  have hb := C.1.2.1
  have hown := C.1.2.2.2.1
  replace hW : WdG g Z s.heap H [] [] := hW.re rfl
  replace hl : lv_has ls 2 [(0, .int p1), (1, .int p2)] := hl
  unfold f_X6_meets at h
  refine lv_iload_n hx hb dX6_meets_0 rfl (lv_at hl 0 rfl) ?_
  have J9 : ∀ (w9 : Unit), f_X6_meets_j9 p2 w9 = some r → ∀ (H : Heap) (locs : List Loc), WdG g Z s.heap H locs [] → ∀ ls : Array Slot, lv_has ls 2 [(1, .int p2)] → W p l e R s m args below meth c H locs 0 0 Q (F0 m 9 ls []) := by
    intro w9 h H locs hW ls hl
    unfold f_X6_meets_j9 at h
    refine lv_iload_n hx hb dX6_meets_9 rfl (lv_at hl 0 rfl) ?_
    refine lv_iconst (v := 1) hx hb dX6_meets_10 (by decide) ?_
    refine lv_icmp_eq (tgt := 19) hx hb dX6_meets_11 (by decide) (fun e1 => ?_) (fun e1 => ?_)
    · replace h := q_t e1 h
      refine lv_iconst (v := 1) hx hb dX6_meets_19 (by decide) ?_
      refine lv_goto (tgt := 24) hx hb dX6_meets_20 (by decide) ?_
      cases h
      exact E _ _ _ _ _ hW rfl rfl dX6_meets_24
    · replace h := q_f e1 h
      refine lv_iload_n hx hb dX6_meets_14 rfl (lv_at hl 0 rfl) ?_
      refine lv_iconst (v := 2) hx hb dX6_meets_15 (by decide) ?_
      refine lv_icmp_ne (tgt := 23) hx hb dX6_meets_16 (by decide) (fun e2 => ?_) (fun e2 => ?_)
      · replace h := q_f e2 h
        refine lv_iconst (v := 0) hx hb dX6_meets_23 (by decide) ?_
        cases h
        exact E _ _ _ _ _ hW rfl rfl dX6_meets_24
      · replace h := q_t e2 h
        refine lv_iconst (v := 1) hx hb dX6_meets_19 (by decide) ?_
        refine lv_goto (tgt := 24) hx hb dX6_meets_20 (by decide) ?_
        cases h
        exact E _ _ _ _ _ hW rfl rfl dX6_meets_24
  refine lv_if_eq (tgt := 9) hx hb dX6_meets_1 (by decide) (fun e3 => ?_) (fun e3 => ?_)
  · replace h := q_t e3 h
    exact J9 () h _ _ hW _ (lv_sub hl [1] rfl)
  · replace h := q_f e3 h
    refine lv_iload_n hx hb dX6_meets_4 rfl (lv_at hl 0 rfl) ?_
    refine lv_iconst (v := 2) hx hb dX6_meets_5 (by decide) ?_
    refine lv_icmp_ne (tgt := 23) hx hb dX6_meets_6 (by decide) (fun e4 => ?_) (fun e4 => ?_)
    · replace h := q_f e4 h
      refine lv_iconst (v := 0) hx hb dX6_meets_23 (by decide) ?_
      cases h
      exact E _ _ _ _ _ hW rfl rfl dX6_meets_24
    · replace h := q_t e4 h
      exact J9 () h _ _ hW _ (lv_sub hl [1] rfl)
def f_X6_nearest_l3 (x : TX6s) (p1 : Int32) (p2 : Int32) (p3 : Int32) (k3 : Int32 → Option (Int32)) (v3 : Int32) : Option (Int32) :=
if 4 < v3 then (
some (-6))
else (
(f_X6_in (p2 + (p3 * v3)) 0 15).bind fun t2 =>
if t2 = 0 then (
k3 (v3 + 1))
else (
(f_X6_wayAt x p1 (p2 + (p3 * v3))).bind fun t5 =>
if t5 = (-6) then (
k3 (v3 + 1))
else (
(f_X6_wayAt x p1 (p2 + (p3 * v3))).bind fun t8 =>
some t8)))
def f_X6_nearest (x : TX6s) (p1 : Int32) (p2 : Int32) (p3 : Int32) : Option (Int32) :=
lpN (f_X6_nearest_l3 x p1 p2 p3) 3000 1
theorem wo_X6_nearest : wordsOk yX6_nearest 3 := by decide +kernel
set_option maxHeartbeats 4000000 in
set_option maxRecDepth 100000 in
theorem c_X6_nearest (l : Launch) (g : GG) (A : Nat → Nat) (b : Nat) (x : TX6s) (p1 : Int32) (p2 : Int32) (p3 : Int32) (r : Int32) (h : f_X6_nearest x p1 p2 p3 = some r) : CI l yX6_nearest wsX6_nearest 2 44 g [.ref (A b), .int p1, .int p2, .int p3] (wX6 g A b x) r (wX6 g A b x) := by
  refine CI.mk (own := RX6) (by decide) rfl rfl (Nat.le_of_ble_eq_true rfl) ?_
  intro p e R s m args below meth c Z Q C E hR H hW ls hl
  have hx := C.1.1
  have hb := C.1.2.1
  have hown := C.1.2.2.2.1
  replace hW : WdG g Z s.heap H [] [[(A b, .inr (6, [.ref (A (b + 1)), .ref (A (b + 2)), .int x.2.2.1, .ref (A (b + 3)), .int x.2.2.2.2.1, .ref (A (b + 4)), .int x.2.2.2.2.2.2.1, .ref (A (b + 5)), .ref (A (b + 6)), .int x.2.2.2.2.2.2.2.2.2.1, .int x.2.2.2.2.2.2.2.2.2.2.1, .int x.2.2.2.2.2.2.2.2.2.2.2]))], [(A (b + 1), .inl (gI g, 268, .inl x.1))], [(A (b + 2), .inl (gI g, 1340, .inl x.2.1))], [(A (b + 3), .inl (gI g, 268, .inl x.2.2.2.1))], [(A (b + 4), .inl (gC g, 70, .inl x.2.2.2.2.2.1))], [(A (b + 5), .inl (gI g, 3, .inl x.2.2.2.2.2.2.2.1))], [(A (b + 6), .inl (gI g, 144, .inl x.2.2.2.2.2.2.2.2.1))]] := hW.re rfl
  replace hl : lv_has ls 6 [(0, .ref (A b)), (1, .int p1), (2, .int p2), (3, .int p3)] := hl
  unfold f_X6_nearest at h
  refine lv_iconst (v := 1) hx hb dX6_nearest_0 (by decide) ?_
  refine lv_istore (lv' := [(4, .int 1), (0, .ref (A b)), (1, .int p1), (2, .int p2), (3, .int p3)]) hx hb dX6_nearest_1 hl (by decide) rfl (fun ls hl => ?_)
  have L3 : ∀ n3 : Nat, ∀ (v3 : Int32), lpN (f_X6_nearest_l3 x p1 p2 p3) n3 v3 = some r → ∀ (H : Heap) (locs : List Loc), WdG g Z s.heap H locs [[(A b, .inr (6, [.ref (A (b + 1)), .ref (A (b + 2)), .int x.2.2.1, .ref (A (b + 3)), .int x.2.2.2.2.1, .ref (A (b + 4)), .int x.2.2.2.2.2.2.1, .ref (A (b + 5)), .ref (A (b + 6)), .int x.2.2.2.2.2.2.2.2.2.1, .int x.2.2.2.2.2.2.2.2.2.2.1, .int x.2.2.2.2.2.2.2.2.2.2.2]))], [(A (b + 1), .inl (gI g, 268, .inl x.1))], [(A (b + 2), .inl (gI g, 1340, .inl x.2.1))], [(A (b + 3), .inl (gI g, 268, .inl x.2.2.2.1))], [(A (b + 4), .inl (gC g, 70, .inl x.2.2.2.2.2.1))], [(A (b + 5), .inl (gI g, 3, .inl x.2.2.2.2.2.2.2.1))], [(A (b + 6), .inl (gI g, 144, .inl x.2.2.2.2.2.2.2.2.1))]] → ∀ ls : Array Slot, lv_has ls 6 [(0, .ref (A b)), (1, .int p1), (2, .int p2), (3, .int p3), (4, .int v3)] → W p l e R s m args below meth c H locs 0 0 Q (F0 m 3 ls []) := by
    intro n3
    induction n3 with
    | zero => intro v3 h; exact absurd (show none = some r from h) (fun h => by cases h)
    | succ n3 ih3 =>
      intro v3 h H locs hW ls hl
      replace h : f_X6_nearest_l3 x p1 p2 p3 (lpN (f_X6_nearest_l3 x p1 p2 p3) n3) v3 = some r := h
      unfold f_X6_nearest_l3 at h
      refine lv_iload hx hb dX6_nearest_3 (lv_at hl 4 rfl) ?_
      refine lv_iconst (v := 4) hx hb dX6_nearest_5 (by decide) ?_
      refine lv_icmp_gt (tgt := 54) hx hb dX6_nearest_6 (by decide) (fun e1 => ?_) (fun e1 => ?_)
      · replace h := q_t e1 h
        refine lv_bipush (v := (-6)) hx hb dX6_nearest_54 (by decide) ?_
        cases h
        exact E _ _ _ _ _ hW rfl rfl dX6_nearest_56
      · replace h := q_f e1 h
        refine lv_iload_n hx hb dX6_nearest_9 rfl (lv_at hl 2 rfl) ?_
        refine lv_iload_n hx hb dX6_nearest_10 rfl (lv_at hl 3 rfl) ?_
        refine lv_iload hx hb dX6_nearest_11 (lv_at hl 4 rfl) ?_
        refine lv_imul hx hb dX6_nearest_13 ?_
        refine lv_iadd hx hb dX6_nearest_14 ?_
        refine lv_istore (lv' := [(5, .int (p2 + (p3 * v3))), (0, .ref (A b)), (1, .int p1), (2, .int p2), (3, .int p3), (4, .int v3)]) hx hb dX6_nearest_15 hl (by decide) rfl (fun ls hl => ?_)
        refine lv_iload hx hb dX6_nearest_17 (lv_at hl 0 rfl) ?_
        refine lv_iconst (v := 0) hx hb dX6_nearest_19 (by decide) ?_
        refine lv_bipush (v := 15) hx hb dX6_nearest_20 (by decide) ?_
        obtain ⟨t2, h3, h⟩ := q_b h
        refine r_cSi C hW (nA := 3) (As := [.int (p2 + (p3 * v3)), .int 0, .int 15]) (rest := []) (c_X6_in l g (p2 + (p3 * v3)) 0 15 _ h3) gX6_nearest_X6_in rfl wo_X6_in (rmk hR rfl rfl) rfl rfl hl.1 (Nat.le_of_ble_eq_true rfl) rz dX6_nearest_22 (n := 7) (is := []) (rs := [0, 1, 2, 3, 4, 5, 6]) (bs' := [[(A b, .inr (6, [.ref (A (b + 1)), .ref (A (b + 2)), .int x.2.2.1, .ref (A (b + 3)), .int x.2.2.2.2.1, .ref (A (b + 4)), .int x.2.2.2.2.2.2.1, .ref (A (b + 5)), .ref (A (b + 6)), .int x.2.2.2.2.2.2.2.2.2.1, .int x.2.2.2.2.2.2.2.2.2.2.1, .int x.2.2.2.2.2.2.2.2.2.2.2]))], [(A (b + 1), .inl (gI g, 268, .inl x.1))], [(A (b + 2), .inl (gI g, 1340, .inl x.2.1))], [(A (b + 3), .inl (gI g, 268, .inl x.2.2.2.1))], [(A (b + 4), .inl (gC g, 70, .inl x.2.2.2.2.2.1))], [(A (b + 5), .inl (gI g, 3, .inl x.2.2.2.2.2.2.2.1))], [(A (b + 6), .inl (gI g, 144, .inl x.2.2.2.2.2.2.2.2.1))]]) rfl rfl pm_38 rfl rfl rfl (fun H locs hW => ?_)
        refine lv_if_eq (tgt := 48) hx hb dX6_nearest_25 (by decide) (fun e4 => ?_) (fun e4 => ?_)
        · replace h := q_t e4 h
          refine lv_iinc (v := (v3 + 1)) (lv' := [(4, .int (v3 + 1)), (5, .int (p2 + (p3 * v3))), (0, .ref (A b)), (1, .int p1), (2, .int p2), (3, .int p3)]) hx hb dX6_nearest_48 hl (k := 5) rfl rfl (by decide) rfl (fun ls hl => ?_)
          refine lv_goto (tgt := 3) hx hb dX6_nearest_51 (by decide) ?_
          exact ih3 (v3 + 1) h _ _ hW _ (lv_sub hl [2, 3, 4, 5, 0] rfl)
        · replace h := q_f e4 h
          refine lv_aload_n hx hb dX6_nearest_28 rfl (lv_at hl 1 rfl) ?_
          refine lv_iload_n hx hb dX6_nearest_29 rfl (lv_at hl 2 rfl) ?_
          refine lv_iload hx hb dX6_nearest_30 (lv_at hl 0 rfl) ?_
          obtain ⟨t5, h6, h⟩ := q_b h
          refine r_cVi C hW (nA := 2) (As := [.int p1, .int (p2 + (p3 * v3))]) (rest := []) (c_X6_wayAt l g A b x p1 (p2 + (p3 * v3)) _ h6) gX6_nearest_X6_wayAt rfl ⟨rfl, wo_X6_wayAt⟩ (rmk hR rfl rfl) rfl rfl rfl rfl hl.1 (Nat.le_of_ble_eq_true rfl) rz dX6_nearest_32 (n := 7) (is := [0, 1, 2, 3, 4, 5, 6]) (rs := []) (bs' := [[(A b, .inr (6, [.ref (A (b + 1)), .ref (A (b + 2)), .int x.2.2.1, .ref (A (b + 3)), .int x.2.2.2.2.1, .ref (A (b + 4)), .int x.2.2.2.2.2.2.1, .ref (A (b + 5)), .ref (A (b + 6)), .int x.2.2.2.2.2.2.2.2.2.1, .int x.2.2.2.2.2.2.2.2.2.2.1, .int x.2.2.2.2.2.2.2.2.2.2.2]))], [(A (b + 1), .inl (gI g, 268, .inl x.1))], [(A (b + 2), .inl (gI g, 1340, .inl x.2.1))], [(A (b + 3), .inl (gI g, 268, .inl x.2.2.2.1))], [(A (b + 4), .inl (gC g, 70, .inl x.2.2.2.2.2.1))], [(A (b + 5), .inl (gI g, 3, .inl x.2.2.2.2.2.2.2.1))], [(A (b + 6), .inl (gI g, 144, .inl x.2.2.2.2.2.2.2.2.1))]]) rfl rfl pm_39 rfl rfl rfl (fun H locs hW => ?_)
          refine lv_bipush (v := (-6)) hx hb dX6_nearest_35 (by decide) ?_
          refine lv_icmp_eq (tgt := 48) hx hb dX6_nearest_37 (by decide) (fun e7 => ?_) (fun e7 => ?_)
          · replace h := q_t e7 h
            refine lv_iinc (v := (v3 + 1)) (lv' := [(4, .int (v3 + 1)), (5, .int (p2 + (p3 * v3))), (0, .ref (A b)), (1, .int p1), (2, .int p2), (3, .int p3)]) hx hb dX6_nearest_48 hl (k := 5) rfl rfl (by decide) rfl (fun ls hl => ?_)
            refine lv_goto (tgt := 3) hx hb dX6_nearest_51 (by decide) ?_
            exact ih3 (v3 + 1) h _ _ hW _ (lv_sub hl [2, 3, 4, 5, 0] rfl)
          · replace h := q_f e7 h
            refine lv_aload_n hx hb dX6_nearest_40 rfl (lv_at hl 1 rfl) ?_
            refine lv_iload_n hx hb dX6_nearest_41 rfl (lv_at hl 2 rfl) ?_
            refine lv_iload hx hb dX6_nearest_42 (lv_at hl 0 rfl) ?_
            obtain ⟨t8, h9, h⟩ := q_b h
            refine r_cVi C hW (nA := 2) (As := [.int p1, .int (p2 + (p3 * v3))]) (rest := []) (c_X6_wayAt l g A b x p1 (p2 + (p3 * v3)) _ h9) gX6_nearest_X6_wayAt rfl ⟨rfl, wo_X6_wayAt⟩ (rmk hR rfl rfl) rfl rfl rfl rfl hl.1 (Nat.le_of_ble_eq_true rfl) rz dX6_nearest_44 (n := 7) (is := [0, 1, 2, 3, 4, 5, 6]) (rs := []) (bs' := [[(A b, .inr (6, [.ref (A (b + 1)), .ref (A (b + 2)), .int x.2.2.1, .ref (A (b + 3)), .int x.2.2.2.2.1, .ref (A (b + 4)), .int x.2.2.2.2.2.2.1, .ref (A (b + 5)), .ref (A (b + 6)), .int x.2.2.2.2.2.2.2.2.2.1, .int x.2.2.2.2.2.2.2.2.2.2.1, .int x.2.2.2.2.2.2.2.2.2.2.2]))], [(A (b + 1), .inl (gI g, 268, .inl x.1))], [(A (b + 2), .inl (gI g, 1340, .inl x.2.1))], [(A (b + 3), .inl (gI g, 268, .inl x.2.2.2.1))], [(A (b + 4), .inl (gC g, 70, .inl x.2.2.2.2.2.1))], [(A (b + 5), .inl (gI g, 3, .inl x.2.2.2.2.2.2.2.1))], [(A (b + 6), .inl (gI g, 144, .inl x.2.2.2.2.2.2.2.2.1))]]) rfl rfl pm_39 rfl rfl rfl (fun H locs hW => ?_)
            cases h
            exact E _ _ _ _ _ hW rfl rfl dX6_nearest_47
  exact L3 3000 1 h _ _ hW _ (lv_sub hl [1, 2, 3, 4, 0] rfl)
