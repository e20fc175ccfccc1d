def f_X6_day_l61 (k4 : (Int32 × Int32 × TX6s) → Option (Int32 × TX6s)) (v4 : Int32 × Int32 × TX6s) (k61 : (Int32 × Int32 × TX6s) → Option (Int32 × TX6s)) (v61 : Int32 × Int32 × TX6s) : Option (Int32 × TX6s) :=
if 2 ≤ v61.2.1 then (
k4 (v61.1, (v4.2.1 + 1), v61.2.2))
else (
(f_X6_lineAt v61.2.1 v4.2.1).bind fun t8 =>
if (2 + v61.2.1) < 0 ∨ 268 ≤ (2 + v61.2.1).toNatClampNeg then none else
if ((2 + v61.2.1) + 1) < 0 ∨ 268 ≤ ((2 + v61.2.1) + 1).toNatClampNeg then none else
(f_X6_loses v61.2.2 t8 (((v61.2.2.1 (2 + v61.2.1).toNatClampNeg) + (v61.2.2.1 ((2 + v61.2.1) + 1).toNatClampNeg)) / 2)).bind fun t13 =>
k61 ((v61.1 + t13.1), (v61.2.1 + 1), t13.2))
def f_X6_day_l12 (k4 : (Int32 × Int32 × TX6s) → Option (Int32 × TX6s)) (v4 : Int32 × Int32 × TX6s) (k12 : (Int32 × Int32 × TX6s) → Option (Int32 × TX6s)) (v12 : Int32 × Int32 × TX6s) : Option (Int32 × TX6s) :=
if 3 ≤ v12.2.1 then (
lpN (f_X6_day_l61 k4 v4) 3000 (v12.1, 0, v12.2.2))
else (
(f_X6_lossOf v12.2.2 v12.2.1 v4.2.1).bind fun t15 =>
(f_X6_cellAt v12.2.1 v4.2.1).bind fun t17 =>
(f_X6_loses v12.2.2 t17 t15).bind fun t19 =>
(f_X6_cellAt v12.2.1 v4.2.1).bind fun t21 =>
(f_X6_loses t19.2 (t21 + 2) t15).bind fun t23 =>
k12 ((v12.1 + (t19.1 + t23.1)), (v12.2.1 + 1), t23.2))
def f_X6_day_l4 (k4 : (Int32 × Int32 × TX6s) → Option (Int32 × TX6s)) (v4 : Int32 × Int32 × TX6s) : Option (Int32 × TX6s) :=
if 16 ≤ v4.2.1 then (
if (6 : Int32) < 0 ∨ 268 ≤ (6 : Int32).toNatClampNeg then none else
if (6 : Int32) < 0 ∨ 268 ≤ (6 : Int32).toNatClampNeg then none else
if (9 : Int32) < 0 ∨ 268 ≤ (9 : Int32).toNatClampNeg then none else
if (9 : Int32) < 0 ∨ 268 ≤ (9 : Int32).toNatClampNeg then none else
some (v4.1, ((upd (upd v4.2.2.1 (6 : Int32).toNatClampNeg ((v4.2.2.1 (6 : Int32).toNatClampNeg) + 1)) (9 : Int32).toNatClampNeg (((upd v4.2.2.1 (6 : Int32).toNatClampNeg ((v4.2.2.1 (6 : Int32).toNatClampNeg) + 1)) (9 : Int32).toNatClampNeg) + v4.1)), v4.2.2.2.1, v4.2.2.2.2.1, v4.2.2.2.2.2.1, v4.2.2.2.2.2.2.1, v4.2.2.2.2.2.2.2.1, v4.2.2.2.2.2.2.2.2.1, v4.2.2.2.2.2.2.2.2.2.1, v4.2.2.2.2.2.2.2.2.2.2.1, v4.2.2.2.2.2.2.2.2.2.2.2.1, v4.2.2.2.2.2.2.2.2.2.2.2.2.1, v4.2.2.2.2.2.2.2.2.2.2.2.2.2)))
else (
lpN (f_X6_day_l12 k4 v4) 3000 (v4.1, 0, v4.2.2))
def f_X6_day (x : TX6s) : Option (Int32 × TX6s) :=
lpN f_X6_day_l4 3000 (0, 0, x)
theorem wo_X6_day : wordsOk yX6_day 0 := by decide +kernel
theorem inX6_day_X6 : ∀ w ∈ wsX60, w ∈ wsX6_day := fun _ h => List.mem_cons_of_mem _ (List.mem_append_right _ h)
set_option maxHeartbeats 4000000 in
set_option maxRecDepth 100000 in
theorem c_X6_day (l : Launch) (g : GG) (A : Nat → Nat) (b : Nat) (x : TX6s) (r : Int32) (x' : TX6s) (h : f_X6_day x = some (r, x')) : CI l yX6_day wsX6_day 3 68 g [.ref (A b)] (wX6 g A b x) r (wX6 g A b x') := by
  refine CI.mk (own := RX6) (by decide) rfl rfl (Nat.le_of_ble_eq_true rfl) ?_
  intro p e R s m args below meth c Z Q C E hR H hW ls hl
  have hx := C.1.1
  have hb := C.1.2.1
  have hown := C.1.2.2.2.1
  replace hW : WdG g Z s.heap H [] [[(A b, .inr (6, [.ref (A (b + 1)), .ref (A (b + 2)), .int x.2.2.1, .ref (A (b + 3)), .int x.2.2.2.2.1, .ref (A (b + 4)), .int x.2.2.2.2.2.2.1, .ref (A (b + 5)), .ref (A (b + 6)), .int x.2.2.2.2.2.2.2.2.2.1, .int x.2.2.2.2.2.2.2.2.2.2.1, .int x.2.2.2.2.2.2.2.2.2.2.2]))], [(A (b + 1), .inl (gI g, 268, .inl x.1))], [(A (b + 2), .inl (gI g, 1340, .inl x.2.1))], [(A (b + 3), .inl (gI g, 268, .inl x.2.2.2.1))], [(A (b + 4), .inl (gC g, 70, .inl x.2.2.2.2.2.1))], [(A (b + 5), .inl (gI g, 3, .inl x.2.2.2.2.2.2.2.1))], [(A (b + 6), .inl (gI g, 144, .inl x.2.2.2.2.2.2.2.2.1))]] := hW.re rfl
  replace hl : lv_has ls 5 [(0, .ref (A b))] := hl
  unfold f_X6_day at h
  refine lv_iconst (v := 0) hx hb dX6_day_0 (by decide) ?_
  refine lv_istore_n (lv' := [(1, .int 0), (0, .ref (A b))]) hx hb dX6_day_1 rfl hl (by decide) rfl (fun ls hl => ?_)
  refine lv_iconst (v := 0) hx hb dX6_day_2 (by decide) ?_
  refine lv_istore_n (lv' := [(2, .int 0), (1, .int 0), (0, .ref (A b))]) hx hb dX6_day_3 rfl hl (by decide) rfl (fun ls hl => ?_)
  have L4 : ∀ n4 : Nat, ∀ (v4 : Int32 × Int32 × TX6s), lpN f_X6_day_l4 n4 v4 = some (r, x') → ∀ (H : Heap) (locs : List Loc), WdG g Z s.heap H locs [[(A b, .inr (6, [.ref (A (b + 1)), .ref (A (b + 2)), .int v4.2.2.2.2.1, .ref (A (b + 3)), .int v4.2.2.2.2.2.2.1, .ref (A (b + 4)), .int v4.2.2.2.2.2.2.2.2.1, .ref (A (b + 5)), .ref (A (b + 6)), .int v4.2.2.2.2.2.2.2.2.2.2.2.1, .int v4.2.2.2.2.2.2.2.2.2.2.2.2.1, .int v4.2.2.2.2.2.2.2.2.2.2.2.2.2]))], [(A (b + 1), .inl (gI g, 268, .inl v4.2.2.1))], [(A (b + 2), .inl (gI g, 1340, .inl v4.2.2.2.1))], [(A (b + 3), .inl (gI g, 268, .inl v4.2.2.2.2.2.1))], [(A (b + 4), .inl (gC g, 70, .inl v4.2.2.2.2.2.2.2.1))], [(A (b + 5), .inl (gI g, 3, .inl v4.2.2.2.2.2.2.2.2.2.1))], [(A (b + 6), .inl (gI g, 144, .inl v4.2.2.2.2.2.2.2.2.2.2.1))]] → ∀ ls : Array Slot, lv_has ls 5 [(0, .ref (A b)), (1, .int v4.1), (2, .int v4.2.1)] → W p l e R s m args below meth c H locs 0 0 Q (F0 m 4 ls []) := by
    intro n4
    induction n4 with
    | zero => intro v4 h; exact absurd (show none = some (r, x') from h) (fun h => by cases h)
    | succ n4 ih4 =>
      intro v4 h H locs hW ls hl
      replace h : f_X6_day_l4 (lpN f_X6_day_l4 n4) v4 = some (r, x') := h
      unfold f_X6_day_l4 at h
      refine lv_iload_n hx hb dX6_day_4 rfl (lv_at hl 2 rfl) ?_
      refine lv_bipush (v := 16) hx hb dX6_day_5 (by decide) ?_
      refine lv_icmp_ge (tgt := 111) hx hb dX6_day_7 (by decide) (fun e1 => ?_) (fun e1 => ?_)
      · replace h := q_t e1 h
        refine lv_aload_n hx hb dX6_day_111 rfl (lv_at hl 0 rfl) ?_
        refine r_get C hW (K := RX6) (T := TX6) (N := 12) (v := .ref (A (b + 1))) 0 0 0 rfl rfl rfl inX6_day_X6 (by decide) (List.mem_of_getElem? (i := 1) rfl) rfl rfl dX6_day_112 ?_
        refine lv_bipush (v := 6) hx hb dX6_day_115 (by decide) ?_
        refine lv_dup2_11 hx hb dX6_day_117 rfl rfl ?_
        obtain ⟨g2, h⟩ := q_g h
        refine r_iald C hW 1 0 rfl rfl g2 dX6_day_118 ?_
        refine lv_iconst (v := 1) hx hb dX6_day_119 (by decide) ?_
        refine lv_iadd hx hb dX6_day_120 ?_
        obtain ⟨g3, h⟩ := q_g h
        refine r_iast C hW (bs' := [[(A b, .inr (6, [.ref (A (b + 1)), .ref (A (b + 2)), .int v4.2.2.2.2.1, .ref (A (b + 3)), .int v4.2.2.2.2.2.2.1, .ref (A (b + 4)), .int v4.2.2.2.2.2.2.2.2.1, .ref (A (b + 5)), .ref (A (b + 6)), .int v4.2.2.2.2.2.2.2.2.2.2.2.1, .int v4.2.2.2.2.2.2.2.2.2.2.2.2.1, .int v4.2.2.2.2.2.2.2.2.2.2.2.2.2]))], [(A (b + 1), .inl (gI g, 268, .inl (upd v4.2.2.1 (6 : Int32).toNatClampNeg ((v4.2.2.1 (6 : Int32).toNatClampNeg) + 1))))], [(A (b + 2), .inl (gI g, 1340, .inl v4.2.2.2.1))], [(A (b + 3), .inl (gI g, 268, .inl v4.2.2.2.2.2.1))], [(A (b + 4), .inl (gC g, 70, .inl v4.2.2.2.2.2.2.2.1))], [(A (b + 5), .inl (gI g, 3, .inl v4.2.2.2.2.2.2.2.2.2.1))], [(A (b + 6), .inl (gI g, 144, .inl v4.2.2.2.2.2.2.2.2.2.2.1))]]) 1 0 rfl rfl g3 dX6_day_121 rfl (fun H locs hW => ?_)
        refine lv_aload_n hx hb dX6_day_122 rfl (lv_at hl 0 rfl) ?_
        refine r_get C hW (K := RX6) (T := TX6) (N := 12) (v := .ref (A (b + 1))) 0 0 0 rfl rfl rfl inX6_day_X6 (by decide) (List.mem_of_getElem? (i := 1) rfl) rfl rfl dX6_day_123 ?_
        refine lv_bipush (v := 9) hx hb dX6_day_126 (by decide) ?_
        refine lv_dup2_11 hx hb dX6_day_128 rfl rfl ?_
        obtain ⟨g4, h⟩ := q_g h
        refine r_iald C hW 1 0 rfl rfl g4 dX6_day_129 ?_
        refine lv_iload_n hx hb dX6_day_130 rfl (lv_at hl 1 rfl) ?_
        refine lv_iadd hx hb dX6_day_131 ?_
        obtain ⟨g5, h⟩ := q_g h
        refine r_iast C hW (bs' := [[(A b, .inr (6, [.ref (A (b + 1)), .ref (A (b + 2)), .int v4.2.2.2.2.1, .ref (A (b + 3)), .int v4.2.2.2.2.2.2.1, .ref (A (b + 4)), .int v4.2.2.2.2.2.2.2.2.1, .ref (A (b + 5)), .ref (A (b + 6)), .int v4.2.2.2.2.2.2.2.2.2.2.2.1, .int v4.2.2.2.2.2.2.2.2.2.2.2.2.1, .int v4.2.2.2.2.2.2.2.2.2.2.2.2.2]))], [(A (b + 1), .inl (gI g, 268, .inl (upd (upd v4.2.2.1 (6 : Int32).toNatClampNeg ((v4.2.2.1 (6 : Int32).toNatClampNeg) + 1)) (9 : Int32).toNatClampNeg (((upd v4.2.2.1 (6 : Int32).toNatClampNeg ((v4.2.2.1 (6 : Int32).toNatClampNeg) + 1)) (9 : Int32).toNatClampNeg) + v4.1))))], [(A (b + 2), .inl (gI g, 1340, .inl v4.2.2.2.1))], [(A (b + 3), .inl (gI g, 268, .inl v4.2.2.2.2.2.1))], [(A (b + 4), .inl (gC g, 70, .inl v4.2.2.2.2.2.2.2.1))], [(A (b + 5), .inl (gI g, 3, .inl v4.2.2.2.2.2.2.2.2.2.1))], [(A (b + 6), .inl (gI g, 144, .inl v4.2.2.2.2.2.2.2.2.2.2.1))]]) 1 0 rfl rfl g5 dX6_day_132 rfl (fun H locs hW => ?_)
        refine lv_iload_n hx hb dX6_day_133 rfl (lv_at hl 1 rfl) ?_
        cases h
        exact E _ _ _ _ _ hW rfl rfl dX6_day_134
      · replace h := q_f e1 h
        refine lv_iconst (v := 0) hx hb dX6_day_10 (by decide) ?_
        refine lv_istore_n (lv' := [(3, .int 0), (0, .ref (A b)), (1, .int v4.1), (2, .int v4.2.1)]) hx hb dX6_day_11 rfl hl (by decide) rfl (fun ls hl => ?_)
        have L12 : ∀ n12 : Nat, ∀ (v12 : Int32 × Int32 × TX6s), lpN (f_X6_day_l12 (lpN f_X6_day_l4 n4) v4) n12 v12 = some (r, x') → ∀ (H : Heap) (locs : List Loc), WdG g Z s.heap H locs [[(A b, .inr (6, [.ref (A (b + 1)), .ref (A (b + 2)), .int v12.2.2.2.2.1, .ref (A (b + 3)), .int v12.2.2.2.2.2.2.1, .ref (A (b + 4)), .int v12.2.2.2.2.2.2.2.2.1, .ref (A (b + 5)), .ref (A (b + 6)), .int v12.2.2.2.2.2.2.2.2.2.2.2.1, .int v12.2.2.2.2.2.2.2.2.2.2.2.2.1, .int v12.2.2.2.2.2.2.2.2.2.2.2.2.2]))], [(A (b + 1), .inl (gI g, 268, .inl v12.2.2.1))], [(A (b + 2), .inl (gI g, 1340, .inl v12.2.2.2.1))], [(A (b + 3), .inl (gI g, 268, .inl v12.2.2.2.2.2.1))], [(A (b + 4), .inl (gC g, 70, .inl v12.2.2.2.2.2.2.2.1))], [(A (b + 5), .inl (gI g, 3, .inl v12.2.2.2.2.2.2.2.2.2.1))], [(A (b + 6), .inl (gI g, 144, .inl v12.2.2.2.2.2.2.2.2.2.2.1))]] → ∀ ls : Array Slot, lv_has ls 5 [(0, .ref (A b)), (1, .int v12.1), (2, .int v4.2.1), (3, .int v12.2.1)] → W p l e R s m args below meth c H locs 0 0 Q (F0 m 12 ls []) := by
          intro n12
          induction n12 with
          | zero => intro v12 h; exact absurd (show none = some (r, x') from h) (fun h => by cases h)
          | succ n12 ih12 =>
            intro v12 h H locs hW ls hl
            replace h : f_X6_day_l12 (lpN f_X6_day_l4 n4) v4 (lpN (f_X6_day_l12 (lpN f_X6_day_l4 n4) v4) n12) v12 = some (r, x') := h
            unfold f_X6_day_l12 at h
            refine lv_iload_n hx hb dX6_day_12 rfl (lv_at hl 3 rfl) ?_
            refine lv_iconst (v := 3) hx hb dX6_day_13 (by decide) ?_
            refine lv_icmp_ge (tgt := 59) hx hb dX6_day_14 (by decide) (fun e6 => ?_) (fun e6 => ?_)
            · replace h := q_t e6 h
              refine lv_iconst (v := 0) hx hb dX6_day_59 (by decide) ?_
              refine lv_istore_n (lv' := [(3, .int 0), (0, .ref (A b)), (1, .int v12.1), (2, .int v4.2.1)]) hx hb dX6_day_60 rfl hl (by decide) rfl (fun ls hl => ?_)
              have L61 : ∀ n61 : Nat, ∀ (v61 : Int32 × Int32 × TX6s), lpN (f_X6_day_l61 (lpN f_X6_day_l4 n4) v4) n61 v61 = some (r, x') → ∀ (H : Heap) (locs : List Loc), WdG g Z s.heap H locs [[(A b, .inr (6, [.ref (A (b + 1)), .ref (A (b + 2)), .int v61.2.2.2.2.1, .ref (A (b + 3)), .int v61.2.2.2.2.2.2.1, .ref (A (b + 4)), .int v61.2.2.2.2.2.2.2.2.1, .ref (A (b + 5)), .ref (A (b + 6)), .int v61.2.2.2.2.2.2.2.2.2.2.2.1, .int v61.2.2.2.2.2.2.2.2.2.2.2.2.1, .int v61.2.2.2.2.2.2.2.2.2.2.2.2.2]))], [(A (b + 1), .inl (gI g, 268, .inl v61.2.2.1))], [(A (b + 2), .inl (gI g, 1340, .inl v61.2.2.2.1))], [(A (b + 3), .inl (gI g, 268, .inl v61.2.2.2.2.2.1))], [(A (b + 4), .inl (gC g, 70, .inl v61.2.2.2.2.2.2.2.1))], [(A (b + 5), .inl (gI g, 3, .inl v61.2.2.2.2.2.2.2.2.2.1))], [(A (b + 6), .inl (gI g, 144, .inl v61.2.2.2.2.2.2.2.2.2.2.1))]] → ∀ ls : Array Slot, lv_has ls 5 [(0, .ref (A b)), (1, .int v61.1), (2, .int v4.2.1), (3, .int v61.2.1)] → W p l e R s m args below meth c H locs 0 0 Q (F0 m 61 ls []) := by
                intro n61
                induction n61 with
                | zero => intro v61 h; exact absurd (show none = some (r, x') from h) (fun h => by cases h)
                | succ n61 ih61 =>
                  intro v61 h H locs hW ls hl
                  replace h : f_X6_day_l61 (lpN f_X6_day_l4 n4) v4 (lpN (f_X6_day_l61 (lpN f_X6_day_l4 n4) v4) n61) v61 = some (r, x') := h
                  unfold f_X6_day_l61 at h
                  refine lv_iload_n hx hb dX6_day_61 rfl (lv_at hl 3 rfl) ?_
                  refine lv_iconst (v := 2) hx hb dX6_day_62 (by decide) ?_
                  refine lv_icmp_ge (tgt := 105) hx hb dX6_day_63 (by decide) (fun e7 => ?_) (fun e7 => ?_)
                  · replace h := q_t e7 h
                    refine lv_iinc (v := (v4.2.1 + 1)) (lv' := [(2, .int (v4.2.1 + 1)), (0, .ref (A b)), (1, .int v61.1), (3, .int v61.2.1)]) hx hb dX6_day_105 hl (k := 2) rfl rfl (by decide) rfl (fun ls hl => ?_)
                    refine lv_goto (tgt := 4) hx hb dX6_day_108 (by decide) ?_
                    exact ih4 (v61.1, (v4.2.1 + 1), v61.2.2) h _ _ hW _ (lv_sub hl [1, 2, 0] rfl)
                  · replace h := q_f e7 h
                    refine lv_iload_n hx hb dX6_day_66 rfl (lv_at hl 1 rfl) ?_
                    refine lv_aload_n hx hb dX6_day_67 rfl (lv_at hl 0 rfl) ?_
                    refine lv_iload_n hx hb dX6_day_68 rfl (lv_at hl 3 rfl) ?_
                    refine lv_iload_n hx hb dX6_day_69 rfl (lv_at hl 2 rfl) ?_
                    obtain ⟨t8, h9, h⟩ := q_b h
                    refine r_cSi C hW (nA := 2) (As := [.int v61.2.1, .int v4.2.1]) (rest := [.ref (A b), .int v61.1]) (c_X6_lineAt l g v61.2.1 v4.2.1 _ h9) gX6_day_X6_lineAt rfl wo_X6_lineAt (rmk hR rfl rfl) rfl rfl hl.1 (Nat.le_of_ble_eq_true rfl) rz dX6_day_70 (n := 7) (is := []) (rs := [0, 1, 2, 3, 4, 5, 6]) (bs' := [[(A b, .inr (6, [.ref (A (b + 1)), .ref (A (b + 2)), .int v61.2.2.2.2.1, .ref (A (b + 3)), .int v61.2.2.2.2.2.2.1, .ref (A (b + 4)), .int v61.2.2.2.2.2.2.2.2.1, .ref (A (b + 5)), .ref (A (b + 6)), .int v61.2.2.2.2.2.2.2.2.2.2.2.1, .int v61.2.2.2.2.2.2.2.2.2.2.2.2.1, .int v61.2.2.2.2.2.2.2.2.2.2.2.2.2]))], [(A (b + 1), .inl (gI g, 268, .inl v61.2.2.1))], [(A (b + 2), .inl (gI g, 1340, .inl v61.2.2.2.1))], [(A (b + 3), .inl (gI g, 268, .inl v61.2.2.2.2.2.1))], [(A (b + 4), .inl (gC g, 70, .inl v61.2.2.2.2.2.2.2.1))], [(A (b + 5), .inl (gI g, 3, .inl v61.2.2.2.2.2.2.2.2.2.1))], [(A (b + 6), .inl (gI g, 144, .inl v61.2.2.2.2.2.2.2.2.2.2.1))]]) rfl rfl pm_38 rfl rfl rfl (fun H locs hW => ?_)
                    refine lv_aload_n hx hb dX6_day_73 rfl (lv_at hl 0 rfl) ?_
                    refine r_get C hW (K := RX6) (T := TX6) (N := 12) (v := .ref (A (b + 1))) 0 0 0 rfl rfl rfl inX6_day_X6 (by decide) (List.mem_of_getElem? (i := 1) rfl) rfl rfl dX6_day_74 ?_
                    refine lv_iconst (v := 2) hx hb dX6_day_77 (by decide) ?_
                    refine lv_iload_n hx hb dX6_day_78 rfl (lv_at hl 3 rfl) ?_
                    refine lv_iadd hx hb dX6_day_79 ?_
                    obtain ⟨g10, h⟩ := q_g h
                    refine r_iald C hW 1 0 rfl rfl g10 dX6_day_80 ?_
                    refine lv_aload_n hx hb dX6_day_81 rfl (lv_at hl 0 rfl) ?_
                    refine r_get C hW (K := RX6) (T := TX6) (N := 12) (v := .ref (A (b + 1))) 0 0 0 rfl rfl rfl inX6_day_X6 (by decide) (List.mem_of_getElem? (i := 1) rfl) rfl rfl dX6_day_82 ?_
                    refine lv_iconst (v := 2) hx hb dX6_day_85 (by decide) ?_
                    refine lv_iload_n hx hb dX6_day_86 rfl (lv_at hl 3 rfl) ?_
                    refine lv_iadd hx hb dX6_day_87 ?_
                    refine lv_iconst (v := 1) hx hb dX6_day_88 (by decide) ?_
                    refine lv_iadd hx hb dX6_day_89 ?_
                    obtain ⟨g11, h⟩ := q_g h
                    refine r_iald C hW 1 0 rfl rfl g11 dX6_day_90 ?_
                    refine lv_iadd hx hb dX6_day_91 ?_
                    refine lv_iconst (v := 2) hx hb dX6_day_92 (by decide) ?_
                    have g12 : ¬ (2 : Int32) = 0 := by decide
                    refine lv_idiv hx hb dX6_day_93 g12 ?_
                    obtain ⟨t13, h14, h⟩ := q_b h
                    refine r_cVi C hW (nA := 2) (As := [.int t8, .int (((v61.2.2.1 (2 + v61.2.1).toNatClampNeg) + (v61.2.2.1 ((2 + v61.2.1) + 1).toNatClampNeg)) / 2)]) (rest := [.int v61.1]) (c_X6_loses l g A b v61.2.2 t8 (((v61.2.2.1 (2 + v61.2.1).toNatClampNeg) + (v61.2.2.1 ((2 + v61.2.1) + 1).toNatClampNeg)) / 2) _ _ h14) gX6_day_X6_loses rfl ⟨rfl, wo_X6_loses⟩ (rmk hR rfl rfl) rfl rfl rfl rfl hl.1 (Nat.le_of_ble_eq_true rfl) rz dX6_day_94 (n := 7) (is := [0, 1, 2, 3, 4, 5, 6]) (rs := []) (bs' := [[(A b, .inr (6, [.ref (A (b + 1)), .ref (A (b + 2)), .int t13.2.2.2.1, .ref (A (b + 3)), .int t13.2.2.2.2.2.1, .ref (A (b + 4)), .int t13.2.2.2.2.2.2.2.1, .ref (A (b + 5)), .ref (A (b + 6)), .int t13.2.2.2.2.2.2.2.2.2.2.1, .int t13.2.2.2.2.2.2.2.2.2.2.2.1, .int t13.2.2.2.2.2.2.2.2.2.2.2.2]))], [(A (b + 1), .inl (gI g, 268, .inl t13.2.1))], [(A (b + 2), .inl (gI g, 1340, .inl t13.2.2.1))], [(A (b + 3), .inl (gI g, 268, .inl t13.2.2.2.2.1))], [(A (b + 4), .inl (gC g, 70, .inl t13.2.2.2.2.2.2.1))], [(A (b + 5), .inl (gI g, 3, .inl t13.2.2.2.2.2.2.2.2.1))], [(A (b + 6), .inl (gI g, 144, .inl t13.2.2.2.2.2.2.2.2.2.1))]]) rfl rfl pm_39 rfl rfl rfl (fun H locs hW => ?_)
                    refine lv_iadd hx hb dX6_day_97 ?_
                    refine lv_istore_n (lv' := [(1, .int (v61.1 + t13.1)), (0, .ref (A b)), (2, .int v4.2.1), (3, .int v61.2.1)]) hx hb dX6_day_98 rfl hl (by decide) rfl (fun ls hl => ?_)
                    refine lv_iinc (v := (v61.2.1 + 1)) (lv' := [(3, .int (v61.2.1 + 1)), (1, .int (v61.1 + t13.1)), (0, .ref (A b)), (2, .int v4.2.1)]) hx hb dX6_day_99 hl (k := 3) rfl rfl (by decide) rfl (fun ls hl => ?_)
                    refine lv_goto (tgt := 61) hx hb dX6_day_102 (by decide) ?_
                    exact ih61 ((v61.1 + t13.1), (v61.2.1 + 1), t13.2) h _ _ hW _ (lv_sub hl [2, 1, 3, 0] rfl)
              exact L61 3000 (v12.1, 0, v12.2.2) h _ _ hW _ (lv_sub hl [1, 2, 3, 0] rfl)
            · replace h := q_f e6 h
              refine lv_aload_n hx hb dX6_day_17 rfl (lv_at hl 0 rfl) ?_
              refine lv_iload_n hx hb dX6_day_18 rfl (lv_at hl 3 rfl) ?_
              refine lv_iload_n hx hb dX6_day_19 rfl (lv_at hl 2 rfl) ?_
              obtain ⟨t15, h16, h⟩ := q_b h
              refine r_cVi C hW (nA := 2) (As := [.int v12.2.1, .int v4.2.1]) (rest := []) (c_X6_lossOf l g A b v12.2.2 v12.2.1 v4.2.1 _ h16) gX6_day_X6_lossOf rfl ⟨rfl, wo_X6_lossOf⟩ (rmk hR rfl rfl) rfl rfl rfl rfl hl.1 (Nat.le_of_ble_eq_true rfl) rz dX6_day_20 (n := 7) (is := [0, 1, 2, 3, 4, 5, 6]) (rs := []) (bs' := [[(A b, .inr (6, [.ref (A (b + 1)), .ref (A (b + 2)), .int v12.2.2.2.2.1, .ref (A (b + 3)), .int v12.2.2.2.2.2.2.1, .ref (A (b + 4)), .int v12.2.2.2.2.2.2.2.2.1, .ref (A (b + 5)), .ref (A (b + 6)), .int v12.2.2.2.2.2.2.2.2.2.2.2.1, .int v12.2.2.2.2.2.2.2.2.2.2.2.2.1, .int v12.2.2.2.2.2.2.2.2.2.2.2.2.2]))], [(A (b + 1), .inl (gI g, 268, .inl v12.2.2.1))], [(A (b + 2), .inl (gI g, 1340, .inl v12.2.2.2.1))], [(A (b + 3), .inl (gI g, 268, .inl v12.2.2.2.2.2.1))], [(A (b + 4), .inl (gC g, 70, .inl v12.2.2.2.2.2.2.2.1))], [(A (b + 5), .inl (gI g, 3, .inl v12.2.2.2.2.2.2.2.2.2.1))], [(A (b + 6), .inl (gI g, 144, .inl v12.2.2.2.2.2.2.2.2.2.2.1))]]) rfl rfl pm_39 rfl rfl rfl (fun H locs hW => ?_)
              refine lv_istore (lv' := [(4, .int t15), (0, .ref (A b)), (1, .int v12.1), (2, .int v4.2.1), (3, .int v12.2.1)]) hx hb dX6_day_23 hl (by decide) rfl (fun ls hl => ?_)
              refine lv_iload_n hx hb dX6_day_25 rfl (lv_at hl 2 rfl) ?_
              refine lv_aload_n hx hb dX6_day_26 rfl (lv_at hl 1 rfl) ?_
              refine lv_iload_n hx hb dX6_day_27 rfl (lv_at hl 4 rfl) ?_
              refine lv_iload_n hx hb dX6_day_28 rfl (lv_at hl 3 rfl) ?_
              obtain ⟨t17, h18, h⟩ := q_b h
              refine r_cSi C hW (nA := 2) (As := [.int v12.2.1, .int v4.2.1]) (rest := [.ref (A b), .int v12.1]) (c_X6_cellAt l g v12.2.1 v4.2.1 _ h18) gX6_day_X6_cellAt rfl wo_X6_cellAt (rmk hR rfl rfl) rfl rfl hl.1 (Nat.le_of_ble_eq_true rfl) rz dX6_day_29 (n := 7) (is := []) (rs := [0, 1, 2, 3, 4, 5, 6]) (bs' := [[(A b, .inr (6, [.ref (A (b + 1)), .ref (A (b + 2)), .int v12.2.2.2.2.1, .ref (A (b + 3)), .int v12.2.2.2.2.2.2.1, .ref (A (b + 4)), .int v12.2.2.2.2.2.2.2.2.1, .ref (A (b + 5)), .ref (A (b + 6)), .int v12.2.2.2.2.2.2.2.2.2.2.2.1, .int v12.2.2.2.2.2.2.2.2.2.2.2.2.1, .int v12.2.2.2.2.2.2.2.2.2.2.2.2.2]))], [(A (b + 1), .inl (gI g, 268, .inl v12.2.2.1))], [(A (b + 2), .inl (gI g, 1340, .inl v12.2.2.2.1))], [(A (b + 3), .inl (gI g, 268, .inl v12.2.2.2.2.2.1))], [(A (b + 4), .inl (gC g, 70, .inl v12.2.2.2.2.2.2.2.1))], [(A (b + 5), .inl (gI g, 3, .inl v12.2.2.2.2.2.2.2.2.2.1))], [(A (b + 6), .inl (gI g, 144, .inl v12.2.2.2.2.2.2.2.2.2.2.1))]]) rfl rfl pm_38 rfl rfl rfl (fun H locs hW => ?_)
              refine lv_iload hx hb dX6_day_32 (lv_at hl 0 rfl) ?_
              obtain ⟨t19, h20, h⟩ := q_b h
              refine r_cVi C hW (nA := 2) (As := [.int t17, .int t15]) (rest := [.int v12.1]) (c_X6_loses l g A b v12.2.2 t17 t15 _ _ h20) gX6_day_X6_loses rfl ⟨rfl, wo_X6_loses⟩ (rmk hR rfl rfl) rfl rfl rfl rfl hl.1 (Nat.le_of_ble_eq_true rfl) rz dX6_day_34 (n := 7) (is := [0, 1, 2, 3, 4, 5, 6]) (rs := []) (bs' := [[(A b, .inr (6, [.ref (A (b + 1)), .ref (A (b + 2)), .int t19.2.2.2.1, .ref (A (b + 3)), .int t19.2.2.2.2.2.1, .ref (A (b + 4)), .int t19.2.2.2.2.2.2.2.1, .ref (A (b + 5)), .ref (A (b + 6)), .int t19.2.2.2.2.2.2.2.2.2.2.1, .int t19.2.2.2.2.2.2.2.2.2.2.2.1, .int t19.2.2.2.2.2.2.2.2.2.2.2.2]))], [(A (b + 1), .inl (gI g, 268, .inl t19.2.1))], [(A (b + 2), .inl (gI g, 1340, .inl t19.2.2.1))], [(A (b + 3), .inl (gI g, 268, .inl t19.2.2.2.2.1))], [(A (b + 4), .inl (gC g, 70, .inl t19.2.2.2.2.2.2.1))], [(A (b + 5), .inl (gI g, 3, .inl t19.2.2.2.2.2.2.2.2.1))], [(A (b + 6), .inl (gI g, 144, .inl t19.2.2.2.2.2.2.2.2.2.1))]]) rfl rfl pm_39 rfl rfl rfl (fun H locs hW => ?_)
              refine lv_aload_n hx hb dX6_day_37 rfl (lv_at hl 1 rfl) ?_
              refine lv_iload_n hx hb dX6_day_38 rfl (lv_at hl 4 rfl) ?_
              refine lv_iload_n hx hb dX6_day_39 rfl (lv_at hl 3 rfl) ?_
              obtain ⟨t21, h22, h⟩ := q_b h
              refine r_cSi C hW (nA := 2) (As := [.int v12.2.1, .int v4.2.1]) (rest := [.ref (A b), .int t19.1, .int v12.1]) (c_X6_cellAt l g v12.2.1 v4.2.1 _ h22) gX6_day_X6_cellAt rfl wo_X6_cellAt (rmk hR rfl rfl) rfl rfl hl.1 (Nat.le_of_ble_eq_true rfl) rz dX6_day_40 (n := 7) (is := []) (rs := [0, 1, 2, 3, 4, 5, 6]) (bs' := [[(A b, .inr (6, [.ref (A (b + 1)), .ref (A (b + 2)), .int t19.2.2.2.1, .ref (A (b + 3)), .int t19.2.2.2.2.2.1, .ref (A (b + 4)), .int t19.2.2.2.2.2.2.2.1, .ref (A (b + 5)), .ref (A (b + 6)), .int t19.2.2.2.2.2.2.2.2.2.2.1, .int t19.2.2.2.2.2.2.2.2.2.2.2.1, .int t19.2.2.2.2.2.2.2.2.2.2.2.2]))], [(A (b + 1), .inl (gI g, 268, .inl t19.2.1))], [(A (b + 2), .inl (gI g, 1340, .inl t19.2.2.1))], [(A (b + 3), .inl (gI g, 268, .inl t19.2.2.2.2.1))], [(A (b + 4), .inl (gC g, 70, .inl t19.2.2.2.2.2.2.1))], [(A (b + 5), .inl (gI g, 3, .inl t19.2.2.2.2.2.2.2.2.1))], [(A (b + 6), .inl (gI g, 144, .inl t19.2.2.2.2.2.2.2.2.2.1))]]) rfl rfl pm_38 rfl rfl rfl (fun H locs hW => ?_)
              refine lv_iconst (v := 2) hx hb dX6_day_43 (by decide) ?_
              refine lv_iadd hx hb dX6_day_44 ?_
              refine lv_iload hx hb dX6_day_45 (lv_at hl 0 rfl) ?_
              obtain ⟨t23, h24, h⟩ := q_b h
              refine r_cVi C hW (nA := 2) (As := [.int (t21 + 2), .int t15]) (rest := [.int t19.1, .int v12.1]) (c_X6_loses l g A b t19.2 (t21 + 2) t15 _ _ h24) gX6_day_X6_loses rfl ⟨rfl, wo_X6_loses⟩ (rmk hR rfl rfl) rfl rfl rfl rfl hl.1 (Nat.le_of_ble_eq_true rfl) rz dX6_day_47 (n := 7) (is := [0, 1, 2, 3, 4, 5, 6]) (rs := []) (bs' := [[(A b, .inr (6, [.ref (A (b + 1)), .ref (A (b + 2)), .int t23.2.2.2.1, .ref (A (b + 3)), .int t23.2.2.2.2.2.1, .ref (A (b + 4)), .int t23.2.2.2.2.2.2.2.1, .ref (A (b + 5)), .ref (A (b + 6)), .int t23.2.2.2.2.2.2.2.2.2.2.1, .int t23.2.2.2.2.2.2.2.2.2.2.2.1, .int t23.2.2.2.2.2.2.2.2.2.2.2.2]))], [(A (b + 1), .inl (gI g, 268, .inl t23.2.1))], [(A (b + 2), .inl (gI g, 1340, .inl t23.2.2.1))], [(A (b + 3), .inl (gI g, 268, .inl t23.2.2.2.2.1))], [(A (b + 4), .inl (gC g, 70, .inl t23.2.2.2.2.2.2.1))], [(A (b + 5), .inl (gI g, 3, .inl t23.2.2.2.2.2.2.2.2.1))], [(A (b + 6), .inl (gI g, 144, .inl t23.2.2.2.2.2.2.2.2.2.1))]]) rfl rfl pm_39 rfl rfl rfl (fun H locs hW => ?_)
              refine lv_iadd hx hb dX6_day_50 ?_
              refine lv_iadd hx hb dX6_day_51 ?_
              refine lv_istore_n (lv' := [(1, .int (v12.1 + (t19.1 + t23.1))), (4, .int t15), (0, .ref (A b)), (2, .int v4.2.1), (3, .int v12.2.1)]) hx hb dX6_day_52 rfl hl (by decide) rfl (fun ls hl => ?_)
              refine lv_iinc (v := (v12.2.1 + 1)) (lv' := [(3, .int (v12.2.1 + 1)), (1, .int (v12.1 + (t19.1 + t23.1))), (4, .int t15), (0, .ref (A b)), (2, .int v4.2.1)]) hx hb dX6_day_53 hl (k := 4) rfl rfl (by decide) rfl (fun ls hl => ?_)
              refine lv_goto (tgt := 12) hx hb dX6_day_56 (by decide) ?_
              exact ih12 ((v12.1 + (t19.1 + t23.1)), (v12.2.1 + 1), t23.2) h _ _ hW _ (lv_sub hl [3, 1, 4, 0] rfl)
        exact L12 3000 (v4.1, 0, v4.2.2) h _ _ hW _ (lv_sub hl [1, 2, 3, 0] rfl)
  exact L4 3000 (0, 0, x) h _ _ hW _ (lv_sub hl [2, 1, 0] rfl)
def f_X6_pass_l21 (p1 : Int32) (k21 : (Int32 × Int32 × TX6s) → Option (Int32 × TX6s)) (v21 : Int32 × Int32 × TX6s) : Option (Int32 × TX6s) :=
if p1 ≤ v21.2.1 then (
some (v21.1, v21.2.2))
else (
(f_X6_day v21.2.2).bind fun t7 =>
k21 ((v21.1 + t7.1), (v21.2.1 + 1), t7.2))
def f_X6_pass (x : TX6s) (p1 : Int32) : Option (Int32 × TX6s) :=
(f_X6_in p1 1 30).bind fun t1 =>
if t1 = 0 then (
some ((-2), x))
else (
(f_X6_record x).bind fun t4 =>
lpN (f_X6_pass_l21 p1) 3000 (0, 0, t4))
theorem wo_X6_pass : wordsOk yX6_pass 1 := by decide +kernel
set_option maxHeartbeats 4000000 in
set_option maxRecDepth 100000 in
theorem c_X6_pass (l : Launch) (g : GG) (A : Nat → Nat) (b : Nat) (x : TX6s) (p1 : Int32) (r : Int32) (x' : TX6s) (h : f_X6_pass x p1 = some (r, x')) : CI l yX6_pass wsX6_pass 4 92 g [.ref (A b), .int p1] (wX6 g A b x) r (wX6 g A b x') := by
  refine CI.mk (own := RX6) (by decide) rfl rfl (Nat.le_of_ble_eq_true rfl) ?_
  intro p e R s m args below meth c Z Q C E hR H hW ls hl
  have hx := C.1.1
  have hb := C.1.2.1
  have hown := C.1.2.2.2.1
  replace hW : WdG g Z s.heap H [] [[(A b, .inr (6, [.ref (A (b + 1)), .ref (A (b + 2)), .int x.2.2.1, .ref (A (b + 3)), .int x.2.2.2.2.1, .ref (A (b + 4)), .int x.2.2.2.2.2.2.1, .ref (A (b + 5)), .ref (A (b + 6)), .int x.2.2.2.2.2.2.2.2.2.1, .int x.2.2.2.2.2.2.2.2.2.2.1, .int x.2.2.2.2.2.2.2.2.2.2.2]))], [(A (b + 1), .inl (gI g, 268, .inl x.1))], [(A (b + 2), .inl (gI g, 1340, .inl x.2.1))], [(A (b + 3), .inl (gI g, 268, .inl x.2.2.2.1))], [(A (b + 4), .inl (gC g, 70, .inl x.2.2.2.2.2.1))], [(A (b + 5), .inl (gI g, 3, .inl x.2.2.2.2.2.2.2.1))], [(A (b + 6), .inl (gI g, 144, .inl x.2.2.2.2.2.2.2.2.1))]] := hW.re rfl
  replace hl : lv_has ls 4 [(0, .ref (A b)), (1, .int p1)] := hl
  unfold f_X6_pass at h
  refine lv_iload_n hx hb dX6_pass_0 rfl (lv_at hl 1 rfl) ?_
  refine lv_iconst (v := 1) hx hb dX6_pass_1 (by decide) ?_
  refine lv_bipush (v := 30) hx hb dX6_pass_2 (by decide) ?_
  obtain ⟨t1, h2, h⟩ := q_b h
  refine r_cSi C hW (nA := 3) (As := [.int p1, .int 1, .int 30]) (rest := []) (c_X6_in l g p1 1 30 _ h2) gX6_pass_X6_in rfl wo_X6_in (rmk hR rfl rfl) rfl rfl hl.1 (Nat.le_of_ble_eq_true rfl) rz dX6_pass_4 (n := 7) (is := []) (rs := [0, 1, 2, 3, 4, 5, 6]) (bs' := [[(A b, .inr (6, [.ref (A (b + 1)), .ref (A (b + 2)), .int x.2.2.1, .ref (A (b + 3)), .int x.2.2.2.2.1, .ref (A (b + 4)), .int x.2.2.2.2.2.2.1, .ref (A (b + 5)), .ref (A (b + 6)), .int x.2.2.2.2.2.2.2.2.2.1, .int x.2.2.2.2.2.2.2.2.2.2.1, .int x.2.2.2.2.2.2.2.2.2.2.2]))], [(A (b + 1), .inl (gI g, 268, .inl x.1))], [(A (b + 2), .inl (gI g, 1340, .inl x.2.1))], [(A (b + 3), .inl (gI g, 268, .inl x.2.2.2.1))], [(A (b + 4), .inl (gC g, 70, .inl x.2.2.2.2.2.1))], [(A (b + 5), .inl (gI g, 3, .inl x.2.2.2.2.2.2.2.1))], [(A (b + 6), .inl (gI g, 144, .inl x.2.2.2.2.2.2.2.2.1))]]) rfl rfl pm_38 rfl rfl rfl (fun H locs hW => ?_)
  refine lv_if_ne (tgt := 13) hx hb dX6_pass_7 (by decide) (fun e3 => ?_) (fun e3 => ?_)
  · replace h := q_f e3 h
    refine lv_aload_n hx hb dX6_pass_13 rfl (lv_at hl 0 rfl) ?_
    obtain ⟨t4, h5, h⟩ := q_b h
    refine r_cVv C hW (nA := 0) (As := []) (rest := []) (c_X6_record l g A b x _ h5) gX6_pass_X6_record rfl ⟨rfl, wo_X6_record⟩ (rmk hR rfl rfl) rfl rfl rfl rfl hl.1 (Nat.le_of_ble_eq_true rfl) rz dX6_pass_14 (n := 7) (is := [0, 1, 2, 3, 4, 5, 6]) (rs := []) (bs' := [[(A b, .inr (6, [.ref (A (b + 1)), .ref (A (b + 2)), .int t4.2.2.1, .ref (A (b + 3)), .int t4.2.2.2.2.1, .ref (A (b + 4)), .int t4.2.2.2.2.2.2.1, .ref (A (b + 5)), .ref (A (b + 6)), .int t4.2.2.2.2.2.2.2.2.2.1, .int t4.2.2.2.2.2.2.2.2.2.2.1, .int t4.2.2.2.2.2.2.2.2.2.2.2]))], [(A (b + 1), .inl (gI g, 268, .inl t4.1))], [(A (b + 2), .inl (gI g, 1340, .inl t4.2.1))], [(A (b + 3), .inl (gI g, 268, .inl t4.2.2.2.1))], [(A (b + 4), .inl (gC g, 70, .inl t4.2.2.2.2.2.1))], [(A (b + 5), .inl (gI g, 3, .inl t4.2.2.2.2.2.2.2.1))], [(A (b + 6), .inl (gI g, 144, .inl t4.2.2.2.2.2.2.2.2.1))]]) rfl rfl pm_39 rfl rfl rfl (fun H locs hW => ?_)
    refine lv_iconst (v := 0) hx hb dX6_pass_17 (by decide) ?_
    refine lv_istore_n (lv' := [(2, .int 0), (0, .ref (A b)), (1, .int p1)]) hx hb dX6_pass_18 rfl hl (by decide) rfl (fun ls hl => ?_)
    refine lv_iconst (v := 0) hx hb dX6_pass_19 (by decide) ?_
    refine lv_istore_n (lv' := [(3, .int 0), (2, .int 0), (0, .ref (A b)), (1, .int p1)]) hx hb dX6_pass_20 rfl hl (by decide) rfl (fun ls hl => ?_)
    have L21 : ∀ n21 : Nat, ∀ (v21 : Int32 × Int32 × TX6s), lpN (f_X6_pass_l21 p1) n21 v21 = some (r, x') → ∀ (H : Heap) (locs : List Loc), WdG g Z s.heap H locs [[(A b, .inr (6, [.ref (A (b + 1)), .ref (A (b + 2)), .int v21.2.2.2.2.1, .ref (A (b + 3)), .int v21.2.2.2.2.2.2.1, .ref (A (b + 4)), .int v21.2.2.2.2.2.2.2.2.1, .ref (A (b + 5)), .ref (A (b + 6)), .int v21.2.2.2.2.2.2.2.2.2.2.2.1, .int v21.2.2.2.2.2.2.2.2.2.2.2.2.1, .int v21.2.2.2.2.2.2.2.2.2.2.2.2.2]))], [(A (b + 1), .inl (gI g, 268, .inl v21.2.2.1))], [(A (b + 2), .inl (gI g, 1340, .inl v21.2.2.2.1))], [(A (b + 3), .inl (gI g, 268, .inl v21.2.2.2.2.2.1))], [(A (b + 4), .inl (gC g, 70, .inl v21.2.2.2.2.2.2.2.1))], [(A (b + 5), .inl (gI g, 3, .inl v21.2.2.2.2.2.2.2.2.2.1))], [(A (b + 6), .inl (gI g, 144, .inl v21.2.2.2.2.2.2.2.2.2.2.1))]] → ∀ ls : Array Slot, lv_has ls 4 [(0, .ref (A b)), (1, .int p1), (2, .int v21.1), (3, .int v21.2.1)] → W p l e R s m args below meth c H locs 0 0 Q (F0 m 21 ls []) := by
      intro n21
      induction n21 with
      | zero => intro v21 h; exact absurd (show none = some (r, x') from h) (fun h => by cases h)
      | succ n21 ih21 =>
        intro v21 h H locs hW ls hl
        replace h : f_X6_pass_l21 p1 (lpN (f_X6_pass_l21 p1) n21) v21 = some (r, x') := h
        unfold f_X6_pass_l21 at h
        refine lv_iload_n hx hb dX6_pass_21 rfl (lv_at hl 3 rfl) ?_
        refine lv_iload_n hx hb dX6_pass_22 rfl (lv_at hl 1 rfl) ?_
        refine lv_icmp_ge (tgt := 39) hx hb dX6_pass_23 (by decide) (fun e6 => ?_) (fun e6 => ?_)
        · replace h := q_t e6 h
          refine lv_iload_n hx hb dX6_pass_39 rfl (lv_at hl 2 rfl) ?_
          cases h
          exact E _ _ _ _ _ hW rfl rfl dX6_pass_40
        · replace h := q_f e6 h
          refine lv_iload_n hx hb dX6_pass_26 rfl (lv_at hl 2 rfl) ?_
          refine lv_aload_n hx hb dX6_pass_27 rfl (lv_at hl 0 rfl) ?_
          obtain ⟨t7, h8, h⟩ := q_b h
          refine r_cVi C hW (nA := 0) (As := []) (rest := [.int v21.1]) (c_X6_day l g A b v21.2.2 _ _ h8) gX6_pass_X6_day rfl ⟨rfl, wo_X6_day⟩ (rmk hR rfl rfl) rfl rfl rfl rfl hl.1 (Nat.le_of_ble_eq_true rfl) rz dX6_pass_28 (n := 7) (is := [0, 1, 2, 3, 4, 5, 6]) (rs := []) (bs' := [[(A b, .inr (6, [.ref (A (b + 1)), .ref (A (b + 2)), .int t7.2.2.2.1, .ref (A (b + 3)), .int t7.2.2.2.2.2.1, .ref (A (b + 4)), .int t7.2.2.2.2.2.2.2.1, .ref (A (b + 5)), .ref (A (b + 6)), .int t7.2.2.2.2.2.2.2.2.2.2.1, .int t7.2.2.2.2.2.2.2.2.2.2.2.1, .int t7.2.2.2.2.2.2.2.2.2.2.2.2]))], [(A (b + 1), .inl (gI g, 268, .inl t7.2.1))], [(A (b + 2), .inl (gI g, 1340, .inl t7.2.2.1))], [(A (b + 3), .inl (gI g, 268, .inl t7.2.2.2.2.1))], [(A (b + 4), .inl (gC g, 70, .inl t7.2.2.2.2.2.2.1))], [(A (b + 5), .inl (gI g, 3, .inl t7.2.2.2.2.2.2.2.2.1))], [(A (b + 6), .inl (gI g, 144, .inl t7.2.2.2.2.2.2.2.2.2.1))]]) rfl rfl pm_39 rfl rfl rfl (fun H locs hW => ?_)
          refine lv_iadd hx hb dX6_pass_31 ?_
          refine lv_istore_n (lv' := [(2, .int (v21.1 + t7.1)), (0, .ref (A b)), (1, .int p1), (3, .int v21.2.1)]) hx hb dX6_pass_32 rfl hl (by decide) rfl (fun ls hl => ?_)
          refine lv_iinc (v := (v21.2.1 + 1)) (lv' := [(3, .int (v21.2.1 + 1)), (2, .int (v21.1 + t7.1)), (0, .ref (A b)), (1, .int p1)]) hx hb dX6_pass_33 hl (k := 3) rfl rfl (by decide) rfl (fun ls hl => ?_)
          refine lv_goto (tgt := 21) hx hb dX6_pass_36 (by decide) ?_
          exact ih21 ((v21.1 + t7.1), (v21.2.1 + 1), t7.2) h _ _ hW _ (lv_sub hl [2, 3, 1, 0] rfl)
    exact L21 3000 (0, 0, t4) h _ _ hW _ (lv_sub hl [2, 3, 1, 0] rfl)
  · replace h := q_t e3 h
    refine lv_bipush (v := (-2)) hx hb dX6_pass_10 (by decide) ?_
    cases h
    exact E _ _ _ _ _ hW rfl rfl dX6_pass_12
def f_X6_isWeak (x : TX6s) (p1 : Int32) : Option (Int32) :=
if p1 < 0 ∨ 268 ≤ (p1).toNatClampNeg then none else
if (x.1 (p1).toNatClampNeg) ≤ 0 then (
some 0)
else (
if (p1 + 1) < 0 ∨ 268 ≤ (p1 + 1).toNatClampNeg then none else
if 60 ≤ (x.1 (p1 + 1).toNatClampNeg) then (
some 0)
else (
some 1))
theorem wo_X6_isWeak : wordsOk yX6_isWeak 1 := by decide +kernel
theorem inX6_isWeak_X6 : ∀ w ∈ wsX60, w ∈ wsX6_isWeak := fun _ h => List.mem_cons_of_mem _ (List.mem_append_right _ h)
set_option maxHeartbeats 4000000 in
set_option maxRecDepth 100000 in
theorem c_X6_isWeak (l : Launch) (g : GG) (A : Nat → Nat) (b : Nat) (x : TX6s) (p1 : Int32) (r : Int32) (h : f_X6_isWeak x p1 = some r) : CI l yX6_isWeak wsX6_isWeak 0 0 g [.ref (A b), .int p1] (wX6 g A b x) r (wX6 g A b x) := by
  refine CI.mk (own := RX6) (by decide) rfl rfl (Nat.le_of_ble_eq_true rfl) ?_
  intro p e R s m args below meth c Z Q C E hR H hW ls hl
  have hx := C.1.1
  have hb := C.1.2.1
  have hown := C.1.2.2.2.1
  replace hW : WdG g Z s.heap H [] [[(A b, .inr (6, [.ref (A (b + 1)), .ref (A (b + 2)), .int x.2.2.1, .ref (A (b + 3)), .int x.2.2.2.2.1, .ref (A (b + 4)), .int x.2.2.2.2.2.2.1, .ref (A (b + 5)), .ref (A (b + 6)), .int x.2.2.2.2.2.2.2.2.2.1, .int x.2.2.2.2.2.2.2.2.2.2.1, .int x.2.2.2.2.2.2.2.2.2.2.2]))], [(A (b + 1), .inl (gI g, 268, .inl x.1))], [(A (b + 2), .inl (gI g, 1340, .inl x.2.1))], [(A (b + 3), .inl (gI g, 268, .inl x.2.2.2.1))], [(A (b + 4), .inl (gC g, 70, .inl x.2.2.2.2.2.1))], [(A (b + 5), .inl (gI g, 3, .inl x.2.2.2.2.2.2.2.1))], [(A (b + 6), .inl (gI g, 144, .inl x.2.2.2.2.2.2.2.2.1))]] := hW.re rfl
  replace hl : lv_has ls 2 [(0, .ref (A b)), (1, .int p1)] := hl
  unfold f_X6_isWeak at h
  refine lv_aload_n hx hb dX6_isWeak_0 rfl (lv_at hl 0 rfl) ?_
  refine r_get C hW (K := RX6) (T := TX6) (N := 12) (v := .ref (A (b + 1))) 0 0 0 rfl rfl rfl inX6_isWeak_X6 (by decide) (List.mem_of_getElem? (i := 1) rfl) rfl rfl dX6_isWeak_1 ?_
  refine lv_iload_n hx hb dX6_isWeak_4 rfl (lv_at hl 1 rfl) ?_
  obtain ⟨g1, h⟩ := q_g h
  refine r_iald C hW 1 0 rfl rfl g1 dX6_isWeak_5 ?_
  refine lv_if_le (tgt := 26) hx hb dX6_isWeak_6 (by decide) (fun e2 => ?_) (fun e2 => ?_)
  · replace h := q_t e2 h
    refine lv_iconst (v := 0) hx hb dX6_isWeak_26 (by decide) ?_
    cases h
    exact E _ _ _ _ _ hW rfl rfl dX6_isWeak_27
  · replace h := q_f e2 h
    refine lv_aload_n hx hb dX6_isWeak_9 rfl (lv_at hl 0 rfl) ?_
    refine r_get C hW (K := RX6) (T := TX6) (N := 12) (v := .ref (A (b + 1))) 0 0 0 rfl rfl rfl inX6_isWeak_X6 (by decide) (List.mem_of_getElem? (i := 1) rfl) rfl rfl dX6_isWeak_10 ?_
    refine lv_iload_n hx hb dX6_isWeak_13 rfl (lv_at hl 1 rfl) ?_
    refine lv_iconst (v := 1) hx hb dX6_isWeak_14 (by decide) ?_
    refine lv_iadd hx hb dX6_isWeak_15 ?_
    obtain ⟨g3, h⟩ := q_g h
    refine r_iald C hW 1 0 rfl rfl g3 dX6_isWeak_16 ?_
    refine lv_bipush (v := 60) hx hb dX6_isWeak_17 (by decide) ?_
    refine lv_icmp_ge (tgt := 26) hx hb dX6_isWeak_19 (by decide) (fun e4 => ?_) (fun e4 => ?_)
    · replace h := q_t e4 h
      refine lv_iconst (v := 0) hx hb dX6_isWeak_26 (by decide) ?_
      cases h
      exact E _ _ _ _ _ hW rfl rfl dX6_isWeak_27
    · replace h := q_f e4 h
      refine lv_iconst (v := 1) hx hb dX6_isWeak_22 (by decide) ?_
      refine lv_goto (tgt := 27) hx hb dX6_isWeak_23 (by decide) ?_
      cases h
      exact E _ _ _ _ _ hW rfl rfl dX6_isWeak_27
