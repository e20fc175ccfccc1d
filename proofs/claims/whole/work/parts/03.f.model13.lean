def f_X6_fewestChanges_j314 (v55 : Int32 × TX6s) (k279 : (Int32 × Int32) → Option (Int32 × TX6s)) (v279 : Int32 × Int32) (w314 : Unit) : Option (Int32 × TX6s) :=
if v279.2 < 0 ∨ 3 ≤ (v279.2).toNatClampNeg then none else
k279 ((v55.2.2.2.2.2.2.2.2.1 (v279.2).toNatClampNeg), (v279.2 + 1))
def f_X6_fewestChanges_l279 (v55 : Int32 × TX6s) (k279 : (Int32 × Int32) → Option (Int32 × TX6s)) (v279 : Int32 × Int32) : Option (Int32 × TX6s) :=
if 3 ≤ v279.2 then (
some (v279.1, v55.2))
else (
if v279.2 < 0 ∨ 3 ≤ (v279.2).toNatClampNeg then none else
if (v55.2.2.2.2.2.2.2.2.1 (v279.2).toNatClampNeg) = (-6) then (
k279 (v279.1, (v279.2 + 1)))
else (
if v279.1 = (-6) then (
f_X6_fewestChanges_j314 v55 k279 v279 ())
else (
if v279.2 < 0 ∨ 3 ≤ (v279.2).toNatClampNeg then none else
if v279.1 ≤ (v55.2.2.2.2.2.2.2.2.1 (v279.2).toNatClampNeg) then (
k279 (v279.1, (v279.2 + 1)))
else (
f_X6_fewestChanges_j314 v55 k279 v279 ()))))
def f_X6_fewestChanges_j233 (v133 : Int32 × TX6s) (k145 : (Int32 × TX6s) → Option (Int32 × TX6s)) (v145 : Int32 × TX6s) (w233 : Unit) : Option (Int32 × TX6s) :=
if v133.1 < 0 ∨ 3 ≤ (v133.1).toNatClampNeg then none else
if v145.1 < 0 ∨ 3 ≤ (v145.1).toNatClampNeg then none else
k145 ((v145.1 + 2), (v145.2.1, v145.2.2.1, v145.2.2.2.1, v145.2.2.2.2.1, v145.2.2.2.2.2.1, v145.2.2.2.2.2.2.1, v145.2.2.2.2.2.2.2.1, (upd v145.2.2.2.2.2.2.2.2.1 (v145.1).toNatClampNeg ((v145.2.2.2.2.2.2.2.2.1 (v133.1).toNatClampNeg) + 1)), v145.2.2.2.2.2.2.2.2.2.1, v145.2.2.2.2.2.2.2.2.2.2.1, v145.2.2.2.2.2.2.2.2.2.2.2.1, v145.2.2.2.2.2.2.2.2.2.2.2.2))
def f_X6_fewestChanges_j195 (v133 : Int32 × TX6s) (k145 : (Int32 × TX6s) → Option (Int32 × TX6s)) (v145 : Int32 × TX6s) (w195 : Int32) : Option (Int32 × TX6s) :=
if w195 = 0 then (
k145 ((v145.1 + 2), v145.2))
else (
if v145.1 < 0 ∨ 3 ≤ (v145.1).toNatClampNeg then none else
if (v145.2.2.2.2.2.2.2.2.1 (v145.1).toNatClampNeg) = (-6) then (
f_X6_fewestChanges_j233 v133 k145 v145 ())
else (
if v133.1 < 0 ∨ 3 ≤ (v133.1).toNatClampNeg then none else
if v145.1 < 0 ∨ 3 ≤ (v145.1).toNatClampNeg then none else
if (v145.2.2.2.2.2.2.2.2.1 (v145.1).toNatClampNeg) ≤ ((v145.2.2.2.2.2.2.2.2.1 (v133.1).toNatClampNeg) + 1) then (
k145 ((v145.1 + 2), v145.2))
else (
f_X6_fewestChanges_j233 v133 k145 v145 ())))
def f_X6_fewestChanges_j194 (v133 : Int32 × TX6s) (k145 : (Int32 × TX6s) → Option (Int32 × TX6s)) (v145 : Int32 × TX6s) (w194 : Unit) : Option (Int32 × TX6s) :=
f_X6_fewestChanges_j195 v133 k145 v145 0
def f_X6_fewestChanges_l145 (p1 : Int32) (w73 : Int32) (k133 : (Int32 × TX6s) → Option (Int32 × TX6s)) (v133 : Int32 × TX6s) (k145 : (Int32 × TX6s) → Option (Int32 × TX6s)) (v145 : Int32 × TX6s) : Option (Int32 × TX6s) :=
if (v133.1 + 1) < v145.1 then (
k133 ((v133.1 + 1), v145.2))
else (
(f_X6_in v145.1 0 2).bind fun t20 =>
if t20 = 0 then (
f_X6_fewestChanges_j194 v133 k145 v145 ())
else (
if v133.1 < 0 ∨ 3 ≤ (v133.1).toNatClampNeg then none else
if (v145.2.2.2.2.2.2.2.2.1 (v133.1).toNatClampNeg) = (-6) then (
f_X6_fewestChanges_j194 v133 k145 v145 ())
else (
(f_X6_canChange v145.2 v133.1 v145.1 w73 p1).bind fun t33 =>
if t33 = 0 then (
f_X6_fewestChanges_j194 v133 k145 v145 ())
else (
f_X6_fewestChanges_j195 v133 k145 v145 1))))
def f_X6_fewestChanges_l133 (p1 : Int32) (w73 : Int32) (k124 : (Int32 × TX6s) → Option (Int32 × TX6s)) (v124 : Int32 × TX6s) (k133 : (Int32 × TX6s) → Option (Int32 × TX6s)) (v133 : Int32 × TX6s) : Option (Int32 × TX6s) :=
if 3 ≤ v133.1 then (
k124 ((v124.1 + 1), v133.2))
else (
lpN (f_X6_fewestChanges_l145 p1 w73 k133 v133) 3000 ((v133.1 - 1), v133.2))
def f_X6_fewestChanges_l124 (p1 : Int32) (k55 : (Int32 × TX6s) → Option (Int32 × TX6s)) (v55 : Int32 × TX6s) (w73 : Int32) (k124 : (Int32 × TX6s) → Option (Int32 × TX6s)) (v124 : Int32 × TX6s) : Option (Int32 × TX6s) :=
if 3 ≤ v124.1 then (
k55 ((v55.1 + 1), v124.2))
else (
lpN (f_X6_fewestChanges_l133 p1 w73 k124 v124) 3000 (0, v124.2))
def f_X6_fewestChanges_l78 (p1 : Int32) (k55 : (Int32 × TX6s) → Option (Int32 × TX6s)) (v55 : Int32 × TX6s) (w73 : Int32) (k78 : (Int32 × TX6s) → Option (Int32 × TX6s)) (v78 : Int32 × TX6s) : Option (Int32 × TX6s) :=
if 3 ≤ v78.1 then (
lpN (f_X6_fewestChanges_l124 p1 k55 v55 w73) 3000 (0, v78.2))
else (
(f_X6_isFree v78.2 v78.1 w73 p1).bind fun t36 =>
if t36 = 0 then (
if v78.1 < 0 ∨ 3 ≤ (v78.1).toNatClampNeg then none else
k78 ((v78.1 + 1), (v78.2.1, v78.2.2.1, v78.2.2.2.1, v78.2.2.2.2.1, v78.2.2.2.2.2.1, v78.2.2.2.2.2.2.1, v78.2.2.2.2.2.2.2.1, (upd v78.2.2.2.2.2.2.2.2.1 (v78.1).toNatClampNeg (-6)), v78.2.2.2.2.2.2.2.2.2.1, v78.2.2.2.2.2.2.2.2.2.2.1, v78.2.2.2.2.2.2.2.2.2.2.2.1, v78.2.2.2.2.2.2.2.2.2.2.2.2)))
else (
if v78.1 < 0 ∨ 3 ≤ (v78.1).toNatClampNeg then none else
if v78.1 < 0 ∨ 3 ≤ (v78.1).toNatClampNeg then none else
k78 ((v78.1 + 1), (v78.2.1, v78.2.2.1, v78.2.2.2.1, v78.2.2.2.2.1, v78.2.2.2.2.2.1, v78.2.2.2.2.2.2.1, v78.2.2.2.2.2.2.2.1, (upd v78.2.2.2.2.2.2.2.2.1 (v78.1).toNatClampNeg (v78.2.2.2.2.2.2.2.2.1 (v78.1).toNatClampNeg)), v78.2.2.2.2.2.2.2.2.2.1, v78.2.2.2.2.2.2.2.2.2.2.1, v78.2.2.2.2.2.2.2.2.2.2.2.1, v78.2.2.2.2.2.2.2.2.2.2.2.2))))
def f_X6_fewestChanges_j73 (p1 : Int32) (k55 : (Int32 × TX6s) → Option (Int32 × TX6s)) (v55 : Int32 × TX6s) (w73 : Int32) : Option (Int32 × TX6s) :=
lpN (f_X6_fewestChanges_l78 p1 k55 v55 w73) 3000 (0, v55.2)
def f_X6_fewestChanges_l55 (p1 : Int32) (k55 : (Int32 × TX6s) → Option (Int32 × TX6s)) (v55 : Int32 × TX6s) : Option (Int32 × TX6s) :=
if 16 ≤ v55.1 then (
lpN (f_X6_fewestChanges_l279 v55) 3000 ((-6), 0))
else (
if p1 = 0 then (
f_X6_fewestChanges_j73 p1 k55 v55 v55.1)
else (
f_X6_fewestChanges_j73 p1 k55 v55 (15 - v55.1)))
def f_X6_fewestChanges_l25 (p1 : Int32) (p2 : Int32) (k25 : (Int32 × TX6s) → Option (Int32 × TX6s)) (v25 : Int32 × TX6s) : Option (Int32 × TX6s) :=
if 3 ≤ v25.1 then (
lpN (f_X6_fewestChanges_l55 p1) 3000 (0, v25.2))
else (
if v25.1 = p2 then (
if v25.1 < 0 ∨ 3 ≤ (v25.1).toNatClampNeg then none else
k25 ((v25.1 + 1), (v25.2.1, v25.2.2.1, v25.2.2.2.1, v25.2.2.2.2.1, v25.2.2.2.2.2.1, v25.2.2.2.2.2.2.1, v25.2.2.2.2.2.2.2.1, (upd v25.2.2.2.2.2.2.2.2.1 (v25.1).toNatClampNeg 0), v25.2.2.2.2.2.2.2.2.2.1, v25.2.2.2.2.2.2.2.2.2.2.1, v25.2.2.2.2.2.2.2.2.2.2.2.1, v25.2.2.2.2.2.2.2.2.2.2.2.2)))
else (
if v25.1 < 0 ∨ 3 ≤ (v25.1).toNatClampNeg then none else
k25 ((v25.1 + 1), (v25.2.1, v25.2.2.1, v25.2.2.2.1, v25.2.2.2.2.1, v25.2.2.2.2.2.1, v25.2.2.2.2.2.2.1, v25.2.2.2.2.2.2.2.1, (upd v25.2.2.2.2.2.2.2.2.1 (v25.1).toNatClampNeg (-6)), v25.2.2.2.2.2.2.2.2.2.1, v25.2.2.2.2.2.2.2.2.2.2.1, v25.2.2.2.2.2.2.2.2.2.2.2.1, v25.2.2.2.2.2.2.2.2.2.2.2.2))))
def f_X6_fewestChanges (x : TX6s) (p1 : Int32) (p2 : Int32) : Option (Int32 × TX6s) :=
(f_X6_in p2 0 2).bind fun t1 =>
if t1 = 0 then (
some ((-1), x))
else (
(f_X6_in p1 0 1).bind fun t4 =>
if t4 = 0 then (
some ((-2), x))
else (
lpN (f_X6_fewestChanges_l25 p1 p2) 3000 (0, x)))
theorem wo_X6_fewestChanges : wordsOk yX6_fewestChanges 2 := by decide +kernel
theorem inX6_fewestChanges_X6 : ∀ w ∈ wsX60, w ∈ wsX6_fewestChanges := fun _ h => List.mem_cons_of_mem _ (List.mem_append_right _ h)
set_option maxHeartbeats 4000000 in
set_option maxRecDepth 100000 in
theorem c_X6_fewestChanges (l : Launch) (g : GG) (A : Nat → Nat) (b : Nat) (x : TX6s) (p1 : Int32) (p2 : Int32) (r : Int32) (x' : TX6s) (h : f_X6_fewestChanges x p1 p2 = some (r, x')) : CI l yX6_fewestChanges wsX6_fewestChanges 4 92 g [.ref (A b), .int p1, .int p2] (wX6 g A b x) r (wX6 g A b x') := by
  refine CI.mk (own := RX6) (by decide) rfl rfl (Nat.le_of_ble_eq_true rfl) ?_
  intro p e R s m args below meth c Z Q C E hR H hW ls hl
  have hx := C.1.1
  have hb := C.1.2.1
  have hown := C.1.2.2.2.1
  replace hW : WdG g Z s.heap H [] [[(A b, .inr (6, [.ref (A (b + 1)), .ref (A (b + 2)), .int x.2.2.1, .ref (A (b + 3)), .int x.2.2.2.2.1, .ref (A (b + 4)), .int x.2.2.2.2.2.2.1, .ref (A (b + 5)), .ref (A (b + 6)), .int x.2.2.2.2.2.2.2.2.2.1, .int x.2.2.2.2.2.2.2.2.2.2.1, .int x.2.2.2.2.2.2.2.2.2.2.2]))], [(A (b + 1), .inl (gI g, 268, .inl x.1))], [(A (b + 2), .inl (gI g, 1340, .inl x.2.1))], [(A (b + 3), .inl (gI g, 268, .inl x.2.2.2.1))], [(A (b + 4), .inl (gC g, 70, .inl x.2.2.2.2.2.1))], [(A (b + 5), .inl (gI g, 3, .inl x.2.2.2.2.2.2.2.1))], [(A (b + 6), .inl (gI g, 144, .inl x.2.2.2.2.2.2.2.2.1))]] := hW.re rfl
  replace hl : lv_has ls 9 [(0, .ref (A b)), (1, .int p1), (2, .int p2)] := hl
  unfold f_X6_fewestChanges at h
  refine lv_iload_n hx hb dX6_fewestChanges_0 rfl (lv_at hl 2 rfl) ?_
  refine lv_iconst (v := 0) hx hb dX6_fewestChanges_1 (by decide) ?_
  refine lv_iconst (v := 2) hx hb dX6_fewestChanges_2 (by decide) ?_
  obtain ⟨t1, h2, h⟩ := q_b h
  refine r_cSi C hW (nA := 3) (As := [.int p2, .int 0, .int 2]) (rest := []) (c_X6_in l g p2 0 2 _ h2) gX6_fewestChanges_X6_in rfl wo_X6_in (rmk hR rfl rfl) rfl rfl hl.1 (Nat.le_of_ble_eq_true rfl) rz dX6_fewestChanges_3 (n := 7) (is := []) (rs := [0, 1, 2, 3, 4, 5, 6]) (bs' := [[(A b, .inr (6, [.ref (A (b + 1)), .ref (A (b + 2)), .int x.2.2.1, .ref (A (b + 3)), .int x.2.2.2.2.1, .ref (A (b + 4)), .int x.2.2.2.2.2.2.1, .ref (A (b + 5)), .ref (A (b + 6)), .int x.2.2.2.2.2.2.2.2.2.1, .int x.2.2.2.2.2.2.2.2.2.2.1, .int x.2.2.2.2.2.2.2.2.2.2.2]))], [(A (b + 1), .inl (gI g, 268, .inl x.1))], [(A (b + 2), .inl (gI g, 1340, .inl x.2.1))], [(A (b + 3), .inl (gI g, 268, .inl x.2.2.2.1))], [(A (b + 4), .inl (gC g, 70, .inl x.2.2.2.2.2.1))], [(A (b + 5), .inl (gI g, 3, .inl x.2.2.2.2.2.2.2.1))], [(A (b + 6), .inl (gI g, 144, .inl x.2.2.2.2.2.2.2.2.1))]]) rfl rfl pm_38 rfl rfl rfl (fun H locs hW => ?_)
  refine lv_if_ne (tgt := 11) hx hb dX6_fewestChanges_6 (by decide) (fun e3 => ?_) (fun e3 => ?_)
  · replace h := q_f e3 h
    refine lv_iload_n hx hb dX6_fewestChanges_11 rfl (lv_at hl 1 rfl) ?_
    refine lv_iconst (v := 0) hx hb dX6_fewestChanges_12 (by decide) ?_
    refine lv_iconst (v := 1) hx hb dX6_fewestChanges_13 (by decide) ?_
    obtain ⟨t4, h5, h⟩ := q_b h
    refine r_cSi C hW (nA := 3) (As := [.int p1, .int 0, .int 1]) (rest := []) (c_X6_in l g p1 0 1 _ h5) gX6_fewestChanges_X6_in rfl wo_X6_in (rmk hR rfl rfl) rfl rfl hl.1 (Nat.le_of_ble_eq_true rfl) rz dX6_fewestChanges_14 (n := 7) (is := []) (rs := [0, 1, 2, 3, 4, 5, 6]) (bs' := [[(A b, .inr (6, [.ref (A (b + 1)), .ref (A (b + 2)), .int x.2.2.1, .ref (A (b + 3)), .int x.2.2.2.2.1, .ref (A (b + 4)), .int x.2.2.2.2.2.2.1, .ref (A (b + 5)), .ref (A (b + 6)), .int x.2.2.2.2.2.2.2.2.2.1, .int x.2.2.2.2.2.2.2.2.2.2.1, .int x.2.2.2.2.2.2.2.2.2.2.2]))], [(A (b + 1), .inl (gI g, 268, .inl x.1))], [(A (b + 2), .inl (gI g, 1340, .inl x.2.1))], [(A (b + 3), .inl (gI g, 268, .inl x.2.2.2.1))], [(A (b + 4), .inl (gC g, 70, .inl x.2.2.2.2.2.1))], [(A (b + 5), .inl (gI g, 3, .inl x.2.2.2.2.2.2.2.1))], [(A (b + 6), .inl (gI g, 144, .inl x.2.2.2.2.2.2.2.2.1))]]) rfl rfl pm_38 rfl rfl rfl (fun H locs hW => ?_)
    refine lv_if_ne (tgt := 23) hx hb dX6_fewestChanges_17 (by decide) (fun e6 => ?_) (fun e6 => ?_)
    · replace h := q_f e6 h
      refine lv_iconst (v := 0) hx hb dX6_fewestChanges_23 (by decide) ?_
      refine lv_istore_n (lv' := [(3, .int 0), (0, .ref (A b)), (1, .int p1), (2, .int p2)]) hx hb dX6_fewestChanges_24 rfl hl (by decide) rfl (fun ls hl => ?_)
      have L25 : ∀ n25 : Nat, ∀ (v25 : Int32 × TX6s), lpN (f_X6_fewestChanges_l25 p1 p2) n25 v25 = some (r, x') → ∀ (H : Heap) (locs : List Loc), WdG g Z s.heap H locs [[(A b, .inr (6, [.ref (A (b + 1)), .ref (A (b + 2)), .int v25.2.2.2.1, .ref (A (b + 3)), .int v25.2.2.2.2.2.1, .ref (A (b + 4)), .int v25.2.2.2.2.2.2.2.1, .ref (A (b + 5)), .ref (A (b + 6)), .int v25.2.2.2.2.2.2.2.2.2.2.1, .int v25.2.2.2.2.2.2.2.2.2.2.2.1, .int v25.2.2.2.2.2.2.2.2.2.2.2.2]))], [(A (b + 1), .inl (gI g, 268, .inl v25.2.1))], [(A (b + 2), .inl (gI g, 1340, .inl v25.2.2.1))], [(A (b + 3), .inl (gI g, 268, .inl v25.2.2.2.2.1))], [(A (b + 4), .inl (gC g, 70, .inl v25.2.2.2.2.2.2.1))], [(A (b + 5), .inl (gI g, 3, .inl v25.2.2.2.2.2.2.2.2.1))], [(A (b + 6), .inl (gI g, 144, .inl v25.2.2.2.2.2.2.2.2.2.1))]] → ∀ ls : Array Slot, lv_has ls 9 [(0, .ref (A b)), (1, .int p1), (2, .int p2), (3, .int v25.1)] → W p l e R s m args below meth c H locs 0 0 Q (F0 m 25 ls []) := by
        intro n25
        induction n25 with
        | zero => intro v25 h; exact absurd (show none = some (r, x') from h) (fun h => by cases h)
        | succ n25 ih25 =>
          intro v25 h H locs hW ls hl
          replace h : f_X6_fewestChanges_l25 p1 p2 (lpN (f_X6_fewestChanges_l25 p1 p2) n25) v25 = some (r, x') := h
          unfold f_X6_fewestChanges_l25 at h
          refine lv_iload_n hx hb dX6_fewestChanges_25 rfl (lv_at hl 3 rfl) ?_
          refine lv_iconst (v := 3) hx hb dX6_fewestChanges_26 (by decide) ?_
          refine lv_icmp_ge (tgt := 53) hx hb dX6_fewestChanges_27 (by decide) (fun e7 => ?_) (fun e7 => ?_)
          · replace h := q_t e7 h
            refine lv_iconst (v := 0) hx hb dX6_fewestChanges_53 (by decide) ?_
            refine lv_istore_n (lv' := [(3, .int 0), (0, .ref (A b)), (1, .int p1), (2, .int p2)]) hx hb dX6_fewestChanges_54 rfl hl (by decide) rfl (fun ls hl => ?_)
            have L55 : ∀ n55 : Nat, ∀ (v55 : Int32 × TX6s), lpN (f_X6_fewestChanges_l55 p1) n55 v55 = some (r, x') → ∀ (H : Heap) (locs : List Loc), WdG g Z s.heap H locs [[(A b, .inr (6, [.ref (A (b + 1)), .ref (A (b + 2)), .int v55.2.2.2.1, .ref (A (b + 3)), .int v55.2.2.2.2.2.1, .ref (A (b + 4)), .int v55.2.2.2.2.2.2.2.1, .ref (A (b + 5)), .ref (A (b + 6)), .int v55.2.2.2.2.2.2.2.2.2.2.1, .int v55.2.2.2.2.2.2.2.2.2.2.2.1, .int v55.2.2.2.2.2.2.2.2.2.2.2.2]))], [(A (b + 1), .inl (gI g, 268, .inl v55.2.1))], [(A (b + 2), .inl (gI g, 1340, .inl v55.2.2.1))], [(A (b + 3), .inl (gI g, 268, .inl v55.2.2.2.2.1))], [(A (b + 4), .inl (gC g, 70, .inl v55.2.2.2.2.2.2.1))], [(A (b + 5), .inl (gI g, 3, .inl v55.2.2.2.2.2.2.2.2.1))], [(A (b + 6), .inl (gI g, 144, .inl v55.2.2.2.2.2.2.2.2.2.1))]] → ∀ ls : Array Slot, lv_has ls 9 [(0, .ref (A b)), (1, .int p1), (3, .int v55.1)] → W p l e R s m args below meth c H locs 0 0 Q (F0 m 55 ls []) := by
              intro n55
              induction n55 with
              | zero => intro v55 h; exact absurd (show none = some (r, x') from h) (fun h => by cases h)
              | succ n55 ih55 =>
                intro v55 h H locs hW ls hl
                replace h : f_X6_fewestChanges_l55 p1 (lpN (f_X6_fewestChanges_l55 p1) n55) v55 = some (r, x') := h
                unfold f_X6_fewestChanges_l55 at h
                refine lv_iload_n hx hb dX6_fewestChanges_55 rfl (lv_at hl 2 rfl) ?_
                refine lv_bipush (v := 16) hx hb dX6_fewestChanges_56 (by decide) ?_
                refine lv_icmp_ge (tgt := 273) hx hb dX6_fewestChanges_58 (by decide) (fun e8 => ?_) (fun e8 => ?_)
                · replace h := q_t e8 h
                  refine lv_bipush (v := (-6)) hx hb dX6_fewestChanges_273 (by decide) ?_
                  refine lv_istore_n (lv' := [(3, .int (-6)), (0, .ref (A b)), (1, .int p1)]) hx hb dX6_fewestChanges_275 rfl hl (by decide) rfl (fun ls hl => ?_)
                  refine lv_iconst (v := 0) hx hb dX6_fewestChanges_276 (by decide) ?_
                  refine lv_istore (lv' := [(4, .int 0), (3, .int (-6)), (0, .ref (A b)), (1, .int p1)]) hx hb dX6_fewestChanges_277 hl (by decide) rfl (fun ls hl => ?_)
                  have L279 : ∀ n279 : Nat, ∀ (v279 : Int32 × Int32), lpN (f_X6_fewestChanges_l279 v55) n279 v279 = some (r, x') → ∀ (H : Heap) (locs : List Loc), WdG g Z s.heap H locs [[(A b, .inr (6, [.ref (A (b + 1)), .ref (A (b + 2)), .int v55.2.2.2.1, .ref (A (b + 3)), .int v55.2.2.2.2.2.1, .ref (A (b + 4)), .int v55.2.2.2.2.2.2.2.1, .ref (A (b + 5)), .ref (A (b + 6)), .int v55.2.2.2.2.2.2.2.2.2.2.1, .int v55.2.2.2.2.2.2.2.2.2.2.2.1, .int v55.2.2.2.2.2.2.2.2.2.2.2.2]))], [(A (b + 1), .inl (gI g, 268, .inl v55.2.1))], [(A (b + 2), .inl (gI g, 1340, .inl v55.2.2.1))], [(A (b + 3), .inl (gI g, 268, .inl v55.2.2.2.2.1))], [(A (b + 4), .inl (gC g, 70, .inl v55.2.2.2.2.2.2.1))], [(A (b + 5), .inl (gI g, 3, .inl v55.2.2.2.2.2.2.2.2.1))], [(A (b + 6), .inl (gI g, 144, .inl v55.2.2.2.2.2.2.2.2.2.1))]] → ∀ ls : Array Slot, lv_has ls 9 [(0, .ref (A b)), (3, .int v279.1), (4, .int v279.2)] → W p l e R s m args below meth c H locs 0 0 Q (F0 m 279 ls []) := by
                    intro n279
                    induction n279 with
                    | zero => intro v279 h; exact absurd (show none = some (r, x') from h) (fun h => by cases h)
                    | succ n279 ih279 =>
                      intro v279 h H locs hW ls hl
                      replace h : f_X6_fewestChanges_l279 v55 (lpN (f_X6_fewestChanges_l279 v55) n279) v279 = some (r, x') := h
                      unfold f_X6_fewestChanges_l279 at h
                      refine lv_iload hx hb dX6_fewestChanges_279 (lv_at hl 2 rfl) ?_
                      refine lv_iconst (v := 3) hx hb dX6_fewestChanges_281 (by decide) ?_
                      refine lv_icmp_ge (tgt := 332) hx hb dX6_fewestChanges_282 (by decide) (fun e9 => ?_) (fun e9 => ?_)
                      · replace h := q_t e9 h
                        refine lv_iload_n hx hb dX6_fewestChanges_332 rfl (lv_at hl 1 rfl) ?_
                        cases h
                        exact E _ _ _ _ _ hW rfl rfl dX6_fewestChanges_333
                      · replace h := q_f e9 h
                        refine lv_aload_n hx hb dX6_fewestChanges_285 rfl (lv_at hl 0 rfl) ?_
                        refine r_get C hW (K := RX6) (T := TX6) (N := 12) (v := .ref (A (b + 5))) 0 0 7 rfl rfl rfl inX6_fewestChanges_X6 (by decide) (List.mem_of_getElem? (i := 1) rfl) rfl rfl dX6_fewestChanges_286 ?_
                        refine lv_iload hx hb dX6_fewestChanges_289 (lv_at hl 2 rfl) ?_
                        obtain ⟨g10, h⟩ := q_g h
                        refine r_iald C hW 5 0 rfl rfl g10 dX6_fewestChanges_291 ?_
                        refine lv_bipush (v := (-6)) hx hb dX6_fewestChanges_292 (by decide) ?_
                        refine lv_icmp_eq (tgt := 324) hx hb dX6_fewestChanges_294 (by decide) (fun e11 => ?_) (fun e11 => ?_)
                        · replace h := q_t e11 h
                          refine lv_iload_n hx hb dX6_fewestChanges_324 rfl (lv_at hl 1 rfl) ?_
                          refine lv_istore_n (lv' := [(3, .int v279.1), (0, .ref (A b)), (4, .int v279.2)]) hx hb dX6_fewestChanges_325 rfl hl (by decide) rfl (fun ls hl => ?_)
                          refine lv_iinc (v := (v279.2 + 1)) (lv' := [(4, .int (v279.2 + 1)), (3, .int v279.1), (0, .ref (A b))]) hx hb dX6_fewestChanges_326 hl (k := 2) rfl rfl (by decide) rfl (fun ls hl => ?_)
                          refine lv_goto (tgt := 279) hx hb dX6_fewestChanges_329 (by decide) ?_
                          exact ih279 (v279.1, (v279.2 + 1)) h _ _ hW _ (lv_sub hl [2, 1, 0] rfl)
                        · replace h := q_f e11 h
                          refine lv_iload_n hx hb dX6_fewestChanges_297 rfl (lv_at hl 1 rfl) ?_
                          refine lv_bipush (v := (-6)) hx hb dX6_fewestChanges_298 (by decide) ?_
                          have J314 : ∀ (w314 : Unit), f_X6_fewestChanges_j314 v55 (lpN (f_X6_fewestChanges_l279 v55) n279) v279 w314 = some (r, x') → ∀ (H : Heap) (locs : List Loc), WdG g Z s.heap H locs [[(A b, .inr (6, [.ref (A (b + 1)), .ref (A (b + 2)), .int v55.2.2.2.1, .ref (A (b + 3)), .int v55.2.2.2.2.2.1, .ref (A (b + 4)), .int v55.2.2.2.2.2.2.2.1, .ref (A (b + 5)), .ref (A (b + 6)), .int v55.2.2.2.2.2.2.2.2.2.2.1, .int v55.2.2.2.2.2.2.2.2.2.2.2.1, .int v55.2.2.2.2.2.2.2.2.2.2.2.2]))], [(A (b + 1), .inl (gI g, 268, .inl v55.2.1))], [(A (b + 2), .inl (gI g, 1340, .inl v55.2.2.1))], [(A (b + 3), .inl (gI g, 268, .inl v55.2.2.2.2.1))], [(A (b + 4), .inl (gC g, 70, .inl v55.2.2.2.2.2.2.1))], [(A (b + 5), .inl (gI g, 3, .inl v55.2.2.2.2.2.2.2.2.1))], [(A (b + 6), .inl (gI g, 144, .inl v55.2.2.2.2.2.2.2.2.2.1))]] → ∀ ls : Array Slot, lv_has ls 9 [(0, .ref (A b)), (4, .int v279.2)] → W p l e R s m args below meth c H locs 0 0 Q (F0 m 314 ls []) := by
                            intro w314 h H locs hW ls hl
                            unfold f_X6_fewestChanges_j314 at h
                            refine lv_aload_n hx hb dX6_fewestChanges_314 rfl (lv_at hl 0 rfl) ?_
                            refine r_get C hW (K := RX6) (T := TX6) (N := 12) (v := .ref (A (b + 5))) 0 0 7 rfl rfl rfl inX6_fewestChanges_X6 (by decide) (List.mem_of_getElem? (i := 1) rfl) rfl rfl dX6_fewestChanges_315 ?_
                            refine lv_iload hx hb dX6_fewestChanges_318 (lv_at hl 1 rfl) ?_
                            obtain ⟨g12, h⟩ := q_g h
                            refine r_iald C hW 5 0 rfl rfl g12 dX6_fewestChanges_320 ?_
                            refine lv_goto (tgt := 325) hx hb dX6_fewestChanges_321 (by decide) ?_
                            refine lv_istore_n (lv' := [(3, .int (v55.2.2.2.2.2.2.2.2.1 (v279.2).toNatClampNeg)), (0, .ref (A b)), (4, .int v279.2)]) hx hb dX6_fewestChanges_325 rfl hl (by decide) rfl (fun ls hl => ?_)
                            refine lv_iinc (v := (v279.2 + 1)) (lv' := [(4, .int (v279.2 + 1)), (3, .int (v55.2.2.2.2.2.2.2.2.1 (v279.2).toNatClampNeg)), (0, .ref (A b))]) hx hb dX6_fewestChanges_326 hl (k := 2) rfl rfl (by decide) rfl (fun ls hl => ?_)
                            refine lv_goto (tgt := 279) hx hb dX6_fewestChanges_329 (by decide) ?_
                            exact ih279 ((v55.2.2.2.2.2.2.2.2.1 (v279.2).toNatClampNeg), (v279.2 + 1)) h _ _ hW _ (lv_sub hl [2, 1, 0] rfl)
                          refine lv_icmp_eq (tgt := 314) hx hb dX6_fewestChanges_300 (by decide) (fun e13 => ?_) (fun e13 => ?_)
                          · replace h := q_t e13 h
                            exact J314 () h _ _ hW _ (lv_sub hl [0, 2] rfl)
                          · replace h := q_f e13 h
                            refine lv_aload_n hx hb dX6_fewestChanges_303 rfl (lv_at hl 0 rfl) ?_
                            refine r_get C hW (K := RX6) (T := TX6) (N := 12) (v := .ref (A (b + 5))) 0 0 7 rfl rfl rfl inX6_fewestChanges_X6 (by decide) (List.mem_of_getElem? (i := 1) rfl) rfl rfl dX6_fewestChanges_304 ?_
                            refine lv_iload hx hb dX6_fewestChanges_307 (lv_at hl 2 rfl) ?_
                            obtain ⟨g14, h⟩ := q_g h
                            refine r_iald C hW 5 0 rfl rfl g14 dX6_fewestChanges_309 ?_
                            refine lv_iload_n hx hb dX6_fewestChanges_310 rfl (lv_at hl 1 rfl) ?_
                            refine lv_icmp_ge (tgt := 324) hx hb dX6_fewestChanges_311 (by decide) (fun e15 => ?_) (fun e15 => ?_)
                            · replace h := q_t e15 h
                              refine lv_iload_n hx hb dX6_fewestChanges_324 rfl (lv_at hl 1 rfl) ?_
                              refine lv_istore_n (lv' := [(3, .int v279.1), (0, .ref (A b)), (4, .int v279.2)]) hx hb dX6_fewestChanges_325 rfl hl (by decide) rfl (fun ls hl => ?_)
                              refine lv_iinc (v := (v279.2 + 1)) (lv' := [(4, .int (v279.2 + 1)), (3, .int v279.1), (0, .ref (A b))]) hx hb dX6_fewestChanges_326 hl (k := 2) rfl rfl (by decide) rfl (fun ls hl => ?_)
                              refine lv_goto (tgt := 279) hx hb dX6_fewestChanges_329 (by decide) ?_
                              exact ih279 (v279.1, (v279.2 + 1)) h _ _ hW _ (lv_sub hl [2, 1, 0] rfl)
                            · replace h := q_f e15 h
                              exact J314 () h _ _ hW _ (lv_sub hl [0, 2] rfl)
                  exact L279 3000 ((-6), 0) h _ _ hW _ (lv_sub hl [2, 1, 0] rfl)
                · replace h := q_f e8 h
                  refine lv_iload_n hx hb dX6_fewestChanges_61 rfl (lv_at hl 1 rfl) ?_
                  have J73 : ∀ (w73 : Int32), f_X6_fewestChanges_j73 p1 (lpN (f_X6_fewestChanges_l55 p1) n55) v55 w73 = some (r, x') → ∀ (H : Heap) (locs : List Loc), WdG g Z s.heap H locs [[(A b, .inr (6, [.ref (A (b + 1)), .ref (A (b + 2)), .int v55.2.2.2.1, .ref (A (b + 3)), .int v55.2.2.2.2.2.1, .ref (A (b + 4)), .int v55.2.2.2.2.2.2.2.1, .ref (A (b + 5)), .ref (A (b + 6)), .int v55.2.2.2.2.2.2.2.2.2.2.1, .int v55.2.2.2.2.2.2.2.2.2.2.2.1, .int v55.2.2.2.2.2.2.2.2.2.2.2.2]))], [(A (b + 1), .inl (gI g, 268, .inl v55.2.1))], [(A (b + 2), .inl (gI g, 1340, .inl v55.2.2.1))], [(A (b + 3), .inl (gI g, 268, .inl v55.2.2.2.2.1))], [(A (b + 4), .inl (gC g, 70, .inl v55.2.2.2.2.2.2.1))], [(A (b + 5), .inl (gI g, 3, .inl v55.2.2.2.2.2.2.2.2.1))], [(A (b + 6), .inl (gI g, 144, .inl v55.2.2.2.2.2.2.2.2.2.1))]] → ∀ ls : Array Slot, lv_has ls 9 [(0, .ref (A b)), (1, .int p1), (3, .int v55.1)] → W p l e R s m args below meth c H locs 0 0 Q (F0 m 73 ls [.int w73]) := by
                    intro w73 h H locs hW ls hl
                    unfold f_X6_fewestChanges_j73 at h
                    refine lv_istore (lv' := [(4, .int w73), (0, .ref (A b)), (1, .int p1), (3, .int v55.1)]) hx hb dX6_fewestChanges_73 hl (by decide) rfl (fun ls hl => ?_)
                    refine lv_iconst (v := 0) hx hb dX6_fewestChanges_75 (by decide) ?_
                    refine lv_istore (lv' := [(5, .int 0), (4, .int w73), (0, .ref (A b)), (1, .int p1), (3, .int v55.1)]) hx hb dX6_fewestChanges_76 hl (by decide) rfl (fun ls hl => ?_)
                    have L78 : ∀ n78 : Nat, ∀ (v78 : Int32 × TX6s), lpN (f_X6_fewestChanges_l78 p1 (lpN (f_X6_fewestChanges_l55 p1) n55) v55 w73) n78 v78 = some (r, x') → ∀ (H : Heap) (locs : List Loc), WdG g Z s.heap H locs [[(A b, .inr (6, [.ref (A (b + 1)), .ref (A (b + 2)), .int v78.2.2.2.1, .ref (A (b + 3)), .int v78.2.2.2.2.2.1, .ref (A (b + 4)), .int v78.2.2.2.2.2.2.2.1, .ref (A (b + 5)), .ref (A (b + 6)), .int v78.2.2.2.2.2.2.2.2.2.2.1, .int v78.2.2.2.2.2.2.2.2.2.2.2.1, .int v78.2.2.2.2.2.2.2.2.2.2.2.2]))], [(A (b + 1), .inl (gI g, 268, .inl v78.2.1))], [(A (b + 2), .inl (gI g, 1340, .inl v78.2.2.1))], [(A (b + 3), .inl (gI g, 268, .inl v78.2.2.2.2.1))], [(A (b + 4), .inl (gC g, 70, .inl v78.2.2.2.2.2.2.1))], [(A (b + 5), .inl (gI g, 3, .inl v78.2.2.2.2.2.2.2.2.1))], [(A (b + 6), .inl (gI g, 144, .inl v78.2.2.2.2.2.2.2.2.2.1))]] → ∀ ls : Array Slot, lv_has ls 9 [(0, .ref (A b)), (1, .int p1), (3, .int v55.1), (4, .int w73), (5, .int v78.1)] → W p l e R s m args below meth c H locs 0 0 Q (F0 m 78 ls []) := by
                      intro n78
                      induction n78 with
                      | zero => intro v78 h; exact absurd (show none = some (r, x') from h) (fun h => by cases h)
                      | succ n78 ih78 =>
                        intro v78 h H locs hW ls hl
                        replace h : f_X6_fewestChanges_l78 p1 (lpN (f_X6_fewestChanges_l55 p1) n55) v55 w73 (lpN (f_X6_fewestChanges_l78 p1 (lpN (f_X6_fewestChanges_l55 p1) n55) v55 w73) n78) v78 = some (r, x') := h
                        unfold f_X6_fewestChanges_l78 at h
                        refine lv_iload hx hb dX6_fewestChanges_78 (lv_at hl 4 rfl) ?_
                        refine lv_iconst (v := 3) hx hb dX6_fewestChanges_80 (by decide) ?_
                        refine lv_icmp_ge (tgt := 121) hx hb dX6_fewestChanges_81 (by decide) (fun e16 => ?_) (fun e16 => ?_)
                        · replace h := q_t e16 h
                          refine lv_iconst (v := 0) hx hb dX6_fewestChanges_121 (by decide) ?_
                          refine lv_istore (lv' := [(5, .int 0), (0, .ref (A b)), (1, .int p1), (3, .int v55.1), (4, .int w73)]) hx hb dX6_fewestChanges_122 hl (by decide) rfl (fun ls hl => ?_)
                          have L124 : ∀ n124 : Nat, ∀ (v124 : Int32 × TX6s), lpN (f_X6_fewestChanges_l124 p1 (lpN (f_X6_fewestChanges_l55 p1) n55) v55 w73) n124 v124 = some (r, x') → ∀ (H : Heap) (locs : List Loc), WdG g Z s.heap H locs [[(A b, .inr (6, [.ref (A (b + 1)), .ref (A (b + 2)), .int v124.2.2.2.1, .ref (A (b + 3)), .int v124.2.2.2.2.2.1, .ref (A (b + 4)), .int v124.2.2.2.2.2.2.2.1, .ref (A (b + 5)), .ref (A (b + 6)), .int v124.2.2.2.2.2.2.2.2.2.2.1, .int v124.2.2.2.2.2.2.2.2.2.2.2.1, .int v124.2.2.2.2.2.2.2.2.2.2.2.2]))], [(A (b + 1), .inl (gI g, 268, .inl v124.2.1))], [(A (b + 2), .inl (gI g, 1340, .inl v124.2.2.1))], [(A (b + 3), .inl (gI g, 268, .inl v124.2.2.2.2.1))], [(A (b + 4), .inl (gC g, 70, .inl v124.2.2.2.2.2.2.1))], [(A (b + 5), .inl (gI g, 3, .inl v124.2.2.2.2.2.2.2.2.1))], [(A (b + 6), .inl (gI g, 144, .inl v124.2.2.2.2.2.2.2.2.2.1))]] → ∀ ls : Array Slot, lv_has ls 9 [(0, .ref (A b)), (1, .int p1), (3, .int v55.1), (4, .int w73), (5, .int v124.1)] → W p l e R s m args below meth c H locs 0 0 Q (F0 m 124 ls []) := by
                            intro n124
                            induction n124 with
                            | zero => intro v124 h; exact absurd (show none = some (r, x') from h) (fun h => by cases h)
                            | succ n124 ih124 =>
                              intro v124 h H locs hW ls hl
                              replace h : f_X6_fewestChanges_l124 p1 (lpN (f_X6_fewestChanges_l55 p1) n55) v55 w73 (lpN (f_X6_fewestChanges_l124 p1 (lpN (f_X6_fewestChanges_l55 p1) n55) v55 w73) n124) v124 = some (r, x') := h
                              unfold f_X6_fewestChanges_l124 at h
                              refine lv_iload hx hb dX6_fewestChanges_124 (lv_at hl 4 rfl) ?_
                              refine lv_iconst (v := 3) hx hb dX6_fewestChanges_126 (by decide) ?_
                              refine lv_icmp_ge (tgt := 267) hx hb dX6_fewestChanges_127 (by decide) (fun e17 => ?_) (fun e17 => ?_)
                              · replace h := q_t e17 h
                                refine lv_iinc (v := (v55.1 + 1)) (lv' := [(3, .int (v55.1 + 1)), (0, .ref (A b)), (1, .int p1), (4, .int w73), (5, .int v124.1)]) hx hb dX6_fewestChanges_267 hl (k := 2) rfl rfl (by decide) rfl (fun ls hl => ?_)
                                refine lv_goto (tgt := 55) hx hb dX6_fewestChanges_270 (by decide) ?_
                                exact ih55 ((v55.1 + 1), v124.2) h _ _ hW _ (lv_sub hl [1, 2, 0] rfl)
                              · replace h := q_f e17 h
                                refine lv_iconst (v := 0) hx hb dX6_fewestChanges_130 (by decide) ?_
                                refine lv_istore (lv' := [(6, .int 0), (0, .ref (A b)), (1, .int p1), (3, .int v55.1), (4, .int w73), (5, .int v124.1)]) hx hb dX6_fewestChanges_131 hl (by decide) rfl (fun ls hl => ?_)
                                have L133 : ∀ n133 : Nat, ∀ (v133 : Int32 × TX6s), lpN (f_X6_fewestChanges_l133 p1 w73 (lpN (f_X6_fewestChanges_l124 p1 (lpN (f_X6_fewestChanges_l55 p1) n55) v55 w73) n124) v124) n133 v133 = some (r, x') → ∀ (H : Heap) (locs : List Loc), WdG g Z s.heap H locs [[(A b, .inr (6, [.ref (A (b + 1)), .ref (A (b + 2)), .int v133.2.2.2.1, .ref (A (b + 3)), .int v133.2.2.2.2.2.1, .ref (A (b + 4)), .int v133.2.2.2.2.2.2.2.1, .ref (A (b + 5)), .ref (A (b + 6)), .int v133.2.2.2.2.2.2.2.2.2.2.1, .int v133.2.2.2.2.2.2.2.2.2.2.2.1, .int v133.2.2.2.2.2.2.2.2.2.2.2.2]))], [(A (b + 1), .inl (gI g, 268, .inl v133.2.1))], [(A (b + 2), .inl (gI g, 1340, .inl v133.2.2.1))], [(A (b + 3), .inl (gI g, 268, .inl v133.2.2.2.2.1))], [(A (b + 4), .inl (gC g, 70, .inl v133.2.2.2.2.2.2.1))], [(A (b + 5), .inl (gI g, 3, .inl v133.2.2.2.2.2.2.2.2.1))], [(A (b + 6), .inl (gI g, 144, .inl v133.2.2.2.2.2.2.2.2.2.1))]] → ∀ ls : Array Slot, lv_has ls 9 [(0, .ref (A b)), (1, .int p1), (3, .int v55.1), (4, .int w73), (5, .int v124.1), (6, .int v133.1)] → W p l e R s m args below meth c H locs 0 0 Q (F0 m 133 ls []) := by
                                  intro n133
                                  induction n133 with
                                  | zero => intro v133 h; exact absurd (show none = some (r, x') from h) (fun h => by cases h)
                                  | succ n133 ih133 =>
                                    intro v133 h H locs hW ls hl
                                    replace h : f_X6_fewestChanges_l133 p1 w73 (lpN (f_X6_fewestChanges_l124 p1 (lpN (f_X6_fewestChanges_l55 p1) n55) v55 w73) n124) v124 (lpN (f_X6_fewestChanges_l133 p1 w73 (lpN (f_X6_fewestChanges_l124 p1 (lpN (f_X6_fewestChanges_l55 p1) n55) v55 w73) n124) v124) n133) v133 = some (r, x') := h
                                    unfold f_X6_fewestChanges_l133 at h
                                    refine lv_iload hx hb dX6_fewestChanges_133 (lv_at hl 5 rfl) ?_
                                    refine lv_iconst (v := 3) hx hb dX6_fewestChanges_135 (by decide) ?_
                                    refine lv_icmp_ge (tgt := 261) hx hb dX6_fewestChanges_136 (by decide) (fun e18 => ?_) (fun e18 => ?_)
                                    · replace h := q_t e18 h
                                      refine lv_iinc (v := (v124.1 + 1)) (lv' := [(5, .int (v124.1 + 1)), (0, .ref (A b)), (1, .int p1), (3, .int v55.1), (4, .int w73), (6, .int v133.1)]) hx hb dX6_fewestChanges_261 hl (k := 4) rfl rfl (by decide) rfl (fun ls hl => ?_)
                                      refine lv_goto (tgt := 124) hx hb dX6_fewestChanges_264 (by decide) ?_
                                      exact ih124 ((v124.1 + 1), v133.2) h _ _ hW _ (lv_sub hl [1, 2, 3, 4, 0] rfl)
                                    · replace h := q_f e18 h
                                      refine lv_iload hx hb dX6_fewestChanges_139 (lv_at hl 5 rfl) ?_
                                      refine lv_iconst (v := 1) hx hb dX6_fewestChanges_141 (by decide) ?_
                                      refine lv_isub hx hb dX6_fewestChanges_142 ?_
                                      refine lv_istore (lv' := [(7, .int (v133.1 - 1)), (0, .ref (A b)), (1, .int p1), (3, .int v55.1), (4, .int w73), (5, .int v124.1), (6, .int v133.1)]) hx hb dX6_fewestChanges_143 hl (by decide) rfl (fun ls hl => ?_)
                                      have L145 : ∀ n145 : Nat, ∀ (v145 : Int32 × TX6s), lpN (f_X6_fewestChanges_l145 p1 w73 (lpN (f_X6_fewestChanges_l133 p1 w73 (lpN (f_X6_fewestChanges_l124 p1 (lpN (f_X6_fewestChanges_l55 p1) n55) v55 w73) n124) v124) n133) v133) n145 v145 = some (r, x') → ∀ (H : Heap) (locs : List Loc), WdG g Z s.heap H locs [[(A b, .inr (6, [.ref (A (b + 1)), .ref (A (b + 2)), .int v145.2.2.2.1, .ref (A (b + 3)), .int v145.2.2.2.2.2.1, .ref (A (b + 4)), .int v145.2.2.2.2.2.2.2.1, .ref (A (b + 5)), .ref (A (b + 6)), .int v145.2.2.2.2.2.2.2.2.2.2.1, .int v145.2.2.2.2.2.2.2.2.2.2.2.1, .int v145.2.2.2.2.2.2.2.2.2.2.2.2]))], [(A (b + 1), .inl (gI g, 268, .inl v145.2.1))], [(A (b + 2), .inl (gI g, 1340, .inl v145.2.2.1))], [(A (b + 3), .inl (gI g, 268, .inl v145.2.2.2.2.1))], [(A (b + 4), .inl (gC g, 70, .inl v145.2.2.2.2.2.2.1))], [(A (b + 5), .inl (gI g, 3, .inl v145.2.2.2.2.2.2.2.2.1))], [(A (b + 6), .inl (gI g, 144, .inl v145.2.2.2.2.2.2.2.2.2.1))]] → ∀ ls : Array Slot, lv_has ls 9 [(0, .ref (A b)), (1, .int p1), (3, .int v55.1), (4, .int w73), (5, .int v124.1), (6, .int v133.1), (7, .int v145.1)] → W p l e R s m args below meth c H locs 0 0 Q (F0 m 145 ls []) := by
                                        intro n145
                                        induction n145 with
                                        | zero => intro v145 h; exact absurd (show none = some (r, x') from h) (fun h => by cases h)
                                        | succ n145 ih145 =>
                                          intro v145 h H locs hW ls hl
                                          replace h : f_X6_fewestChanges_l145 p1 w73 (lpN (f_X6_fewestChanges_l133 p1 w73 (lpN (f_X6_fewestChanges_l124 p1 (lpN (f_X6_fewestChanges_l55 p1) n55) v55 w73) n124) v124) n133) v133 (lpN (f_X6_fewestChanges_l145 p1 w73 (lpN (f_X6_fewestChanges_l133 p1 w73 (lpN (f_X6_fewestChanges_l124 p1 (lpN (f_X6_fewestChanges_l55 p1) n55) v55 w73) n124) v124) n133) v133) n145) v145 = some (r, x') := h
                                          unfold f_X6_fewestChanges_l145 at h
                                          refine lv_iload hx hb dX6_fewestChanges_145 (lv_at hl 6 rfl) ?_
                                          refine lv_iload hx hb dX6_fewestChanges_147 (lv_at hl 5 rfl) ?_
                                          refine lv_iconst (v := 1) hx hb dX6_fewestChanges_149 (by decide) ?_
                                          refine lv_iadd hx hb dX6_fewestChanges_150 ?_
                                          refine lv_icmp_gt (tgt := 255) hx hb dX6_fewestChanges_151 (by decide) (fun e19 => ?_) (fun e19 => ?_)
                                          · replace h := q_t e19 h
                                            refine lv_iinc (v := (v133.1 + 1)) (lv' := [(6, .int (v133.1 + 1)), (0, .ref (A b)), (1, .int p1), (3, .int v55.1), (4, .int w73), (5, .int v124.1), (7, .int v145.1)]) hx hb dX6_fewestChanges_255 hl (k := 5) rfl rfl (by decide) rfl (fun ls hl => ?_)
                                            refine lv_goto (tgt := 133) hx hb dX6_fewestChanges_258 (by decide) ?_
                                            exact ih133 ((v133.1 + 1), v145.2) h _ _ hW _ (lv_sub hl [1, 2, 3, 4, 5, 0] rfl)
                                          · replace h := q_f e19 h
                                            refine lv_iload hx hb dX6_fewestChanges_154 (lv_at hl 6 rfl) ?_
                                            refine lv_iconst (v := 0) hx hb dX6_fewestChanges_156 (by decide) ?_
                                            refine lv_iconst (v := 2) hx hb dX6_fewestChanges_157 (by decide) ?_
                                            obtain ⟨t20, h21, h⟩ := q_b h
                                            refine r_cSi C hW (nA := 3) (As := [.int v145.1, .int 0, .int 2]) (rest := []) (c_X6_in l g v145.1 0 2 _ h21) gX6_fewestChanges_X6_in rfl wo_X6_in (rmk hR rfl rfl) rfl rfl hl.1 (Nat.le_of_ble_eq_true rfl) rz dX6_fewestChanges_158 (n := 7) (is := []) (rs := [0, 1, 2, 3, 4, 5, 6]) (bs' := [[(A b, .inr (6, [.ref (A (b + 1)), .ref (A (b + 2)), .int v145.2.2.2.1, .ref (A (b + 3)), .int v145.2.2.2.2.2.1, .ref (A (b + 4)), .int v145.2.2.2.2.2.2.2.1, .ref (A (b + 5)), .ref (A (b + 6)), .int v145.2.2.2.2.2.2.2.2.2.2.1, .int v145.2.2.2.2.2.2.2.2.2.2.2.1, .int v145.2.2.2.2.2.2.2.2.2.2.2.2]))], [(A (b + 1), .inl (gI g, 268, .inl v145.2.1))], [(A (b + 2), .inl (gI g, 1340, .inl v145.2.2.1))], [(A (b + 3), .inl (gI g, 268, .inl v145.2.2.2.2.1))], [(A (b + 4), .inl (gC g, 70, .inl v145.2.2.2.2.2.2.1))], [(A (b + 5), .inl (gI g, 3, .inl v145.2.2.2.2.2.2.2.2.1))], [(A (b + 6), .inl (gI g, 144, .inl v145.2.2.2.2.2.2.2.2.2.1))]]) rfl rfl pm_38 rfl rfl rfl (fun H locs hW => ?_)
                                            have J195 : ∀ (w195 : Int32), f_X6_fewestChanges_j195 v133 (lpN (f_X6_fewestChanges_l145 p1 w73 (lpN (f_X6_fewestChanges_l133 p1 w73 (lpN (f_X6_fewestChanges_l124 p1 (lpN (f_X6_fewestChanges_l55 p1) n55) v55 w73) n124) v124) n133) v133) n145) v145 w195 = some (r, x') → ∀ (H : Heap) (locs : List Loc), WdG g Z s.heap H locs [[(A b, .inr (6, [.ref (A (b + 1)), .ref (A (b + 2)), .int v145.2.2.2.1, .ref (A (b + 3)), .int v145.2.2.2.2.2.1, .ref (A (b + 4)), .int v145.2.2.2.2.2.2.2.1, .ref (A (b + 5)), .ref (A (b + 6)), .int v145.2.2.2.2.2.2.2.2.2.2.1, .int v145.2.2.2.2.2.2.2.2.2.2.2.1, .int v145.2.2.2.2.2.2.2.2.2.2.2.2]))], [(A (b + 1), .inl (gI g, 268, .inl v145.2.1))], [(A (b + 2), .inl (gI g, 1340, .inl v145.2.2.1))], [(A (b + 3), .inl (gI g, 268, .inl v145.2.2.2.2.1))], [(A (b + 4), .inl (gC g, 70, .inl v145.2.2.2.2.2.2.1))], [(A (b + 5), .inl (gI g, 3, .inl v145.2.2.2.2.2.2.2.2.1))], [(A (b + 6), .inl (gI g, 144, .inl v145.2.2.2.2.2.2.2.2.2.1))]] → ∀ ls : Array Slot, lv_has ls 9 [(0, .ref (A b)), (1, .int p1), (3, .int v55.1), (4, .int w73), (5, .int v124.1), (6, .int v133.1), (7, .int v145.1)] → W p l e R s m args below meth c H locs 0 0 Q (F0 m 195 ls [.int w195]) := by
                                              intro w195 h H locs hW ls hl
                                              unfold f_X6_fewestChanges_j195 at h
                                              refine lv_istore (lv' := [(8, .int w195), (0, .ref (A b)), (1, .int p1), (3, .int v55.1), (4, .int w73), (5, .int v124.1), (6, .int v133.1), (7, .int v145.1)]) hx hb dX6_fewestChanges_195 hl (by decide) rfl (fun ls hl => ?_)
                                              refine lv_iload hx hb dX6_fewestChanges_197 (lv_at hl 0 rfl) ?_
                                              refine lv_if_eq (tgt := 249) hx hb dX6_fewestChanges_199 (by decide) (fun e22 => ?_) (fun e22 => ?_)
                                              · replace h := q_t e22 h
                                                refine lv_iinc (v := (v145.1 + 2)) (lv' := [(7, .int (v145.1 + 2)), (8, .int w195), (0, .ref (A b)), (1, .int p1), (3, .int v55.1), (4, .int w73), (5, .int v124.1), (6, .int v133.1)]) hx hb dX6_fewestChanges_249 hl (k := 7) rfl rfl (by decide) rfl (fun ls hl => ?_)
                                                refine lv_goto (tgt := 145) hx hb dX6_fewestChanges_252 (by decide) ?_
                                                exact ih145 ((v145.1 + 2), v145.2) h _ _ hW _ (lv_sub hl [2, 3, 4, 5, 6, 7, 0] rfl)
                                              · replace h := q_f e22 h
                                                refine lv_aload_n hx hb dX6_fewestChanges_202 rfl (lv_at hl 1 rfl) ?_
                                                refine r_get C hW (K := RX6) (T := TX6) (N := 12) (v := .ref (A (b + 5))) 0 0 7 rfl rfl rfl inX6_fewestChanges_X6 (by decide) (List.mem_of_getElem? (i := 1) rfl) rfl rfl dX6_fewestChanges_203 ?_
                                                refine lv_iload hx hb dX6_fewestChanges_206 (lv_at hl 7 rfl) ?_
                                                obtain ⟨g23, h⟩ := q_g h
                                                refine r_iald C hW 5 0 rfl rfl g23 dX6_fewestChanges_208 ?_
                                                refine lv_bipush (v := (-6)) hx hb dX6_fewestChanges_209 (by decide) ?_
                                                have J233 : ∀ (w233 : Unit), f_X6_fewestChanges_j233 v133 (lpN (f_X6_fewestChanges_l145 p1 w73 (lpN (f_X6_fewestChanges_l133 p1 w73 (lpN (f_X6_fewestChanges_l124 p1 (lpN (f_X6_fewestChanges_l55 p1) n55) v55 w73) n124) v124) n133) v133) n145) v145 w233 = some (r, x') → ∀ (H : Heap) (locs : List Loc), WdG g Z s.heap H locs [[(A b, .inr (6, [.ref (A (b + 1)), .ref (A (b + 2)), .int v145.2.2.2.1, .ref (A (b + 3)), .int v145.2.2.2.2.2.1, .ref (A (b + 4)), .int v145.2.2.2.2.2.2.2.1, .ref (A (b + 5)), .ref (A (b + 6)), .int v145.2.2.2.2.2.2.2.2.2.2.1, .int v145.2.2.2.2.2.2.2.2.2.2.2.1, .int v145.2.2.2.2.2.2.2.2.2.2.2.2]))], [(A (b + 1), .inl (gI g, 268, .inl v145.2.1))], [(A (b + 2), .inl (gI g, 1340, .inl v145.2.2.1))], [(A (b + 3), .inl (gI g, 268, .inl v145.2.2.2.2.1))], [(A (b + 4), .inl (gC g, 70, .inl v145.2.2.2.2.2.2.1))], [(A (b + 5), .inl (gI g, 3, .inl v145.2.2.2.2.2.2.2.2.1))], [(A (b + 6), .inl (gI g, 144, .inl v145.2.2.2.2.2.2.2.2.2.1))]] → ∀ ls : Array Slot, lv_has ls 9 [(0, .ref (A b)), (1, .int p1), (3, .int v55.1), (4, .int w73), (5, .int v124.1), (6, .int v133.1), (7, .int v145.1)] → W p l e R s m args below meth c H locs 0 0 Q (F0 m 233 ls []) := by
                                                  intro w233 h H locs hW ls hl
                                                  unfold f_X6_fewestChanges_j233 at h
                                                  refine lv_aload_n hx hb dX6_fewestChanges_233 rfl (lv_at hl 0 rfl) ?_
                                                  refine r_get C hW (K := RX6) (T := TX6) (N := 12) (v := .ref (A (b + 5))) 0 0 7 rfl rfl rfl inX6_fewestChanges_X6 (by decide) (List.mem_of_getElem? (i := 1) rfl) rfl rfl dX6_fewestChanges_234 ?_
                                                  refine lv_iload hx hb dX6_fewestChanges_237 (lv_at hl 6 rfl) ?_
                                                  refine lv_aload_n hx hb dX6_fewestChanges_239 rfl (lv_at hl 0 rfl) ?_
                                                  refine r_get C hW (K := RX6) (T := TX6) (N := 12) (v := .ref (A (b + 5))) 0 0 7 rfl rfl rfl inX6_fewestChanges_X6 (by decide) (List.mem_of_getElem? (i := 1) rfl) rfl rfl dX6_fewestChanges_240 ?_
                                                  refine lv_iload hx hb dX6_fewestChanges_243 (lv_at hl 5 rfl) ?_
                                                  obtain ⟨g24, h⟩ := q_g h
                                                  refine r_iald C hW 5 0 rfl rfl g24 dX6_fewestChanges_245 ?_
                                                  refine lv_iconst (v := 1) hx hb dX6_fewestChanges_246 (by decide) ?_
                                                  refine lv_iadd hx hb dX6_fewestChanges_247 ?_
                                                  obtain ⟨g25, h⟩ := q_g h
                                                  refine r_iast C hW (bs' := [[(A b, .inr (6, [.ref (A (b + 1)), .ref (A (b + 2)), .int v145.2.2.2.1, .ref (A (b + 3)), .int v145.2.2.2.2.2.1, .ref (A (b + 4)), .int v145.2.2.2.2.2.2.2.1, .ref (A (b + 5)), .ref (A (b + 6)), .int v145.2.2.2.2.2.2.2.2.2.2.1, .int v145.2.2.2.2.2.2.2.2.2.2.2.1, .int v145.2.2.2.2.2.2.2.2.2.2.2.2]))], [(A (b + 1), .inl (gI g, 268, .inl v145.2.1))], [(A (b + 2), .inl (gI g, 1340, .inl v145.2.2.1))], [(A (b + 3), .inl (gI g, 268, .inl v145.2.2.2.2.1))], [(A (b + 4), .inl (gC g, 70, .inl v145.2.2.2.2.2.2.1))], [(A (b + 5), .inl (gI g, 3, .inl (upd v145.2.2.2.2.2.2.2.2.1 (v145.1).toNatClampNeg ((v145.2.2.2.2.2.2.2.2.1 (v133.1).toNatClampNeg) + 1))))], [(A (b + 6), .inl (gI g, 144, .inl v145.2.2.2.2.2.2.2.2.2.1))]]) 5 0 rfl rfl g25 dX6_fewestChanges_248 rfl (fun H locs hW => ?_)
                                                  refine lv_iinc (v := (v145.1 + 2)) (lv' := [(7, .int (v145.1 + 2)), (0, .ref (A b)), (1, .int p1), (3, .int v55.1), (4, .int w73), (5, .int v124.1), (6, .int v133.1)]) hx hb dX6_fewestChanges_249 hl (k := 6) rfl rfl (by decide) rfl (fun ls hl => ?_)
                                                  refine lv_goto (tgt := 145) hx hb dX6_fewestChanges_252 (by decide) ?_
                                                  exact ih145 ((v145.1 + 2), (v145.2.1, v145.2.2.1, v145.2.2.2.1, v145.2.2.2.2.1, v145.2.2.2.2.2.1, v145.2.2.2.2.2.2.1, v145.2.2.2.2.2.2.2.1, (upd v145.2.2.2.2.2.2.2.2.1 (v145.1).toNatClampNeg ((v145.2.2.2.2.2.2.2.2.1 (v133.1).toNatClampNeg) + 1)), v145.2.2.2.2.2.2.2.2.2.1, v145.2.2.2.2.2.2.2.2.2.2.1, v145.2.2.2.2.2.2.2.2.2.2.2.1, v145.2.2.2.2.2.2.2.2.2.2.2.2)) h _ _ hW _ (lv_sub hl [1, 2, 3, 4, 5, 6, 0] rfl)
                                                refine lv_icmp_eq (tgt := 233) hx hb dX6_fewestChanges_211 (by decide) (fun e26 => ?_) (fun e26 => ?_)
                                                · replace h := q_t e26 h
                                                  exact J233 () h _ _ hW _ (lv_sub hl [1, 2, 3, 4, 5, 6, 7] rfl)
                                                · replace h := q_f e26 h
                                                  refine lv_aload_n hx hb dX6_fewestChanges_214 rfl (lv_at hl 1 rfl) ?_
                                                  refine r_get C hW (K := RX6) (T := TX6) (N := 12) (v := .ref (A (b + 5))) 0 0 7 rfl rfl rfl inX6_fewestChanges_X6 (by decide) (List.mem_of_getElem? (i := 1) rfl) rfl rfl dX6_fewestChanges_215 ?_
                                                  refine lv_iload hx hb dX6_fewestChanges_218 (lv_at hl 6 rfl) ?_
                                                  obtain ⟨g27, h⟩ := q_g h
                                                  refine r_iald C hW 5 0 rfl rfl g27 dX6_fewestChanges_220 ?_
                                                  refine lv_iconst (v := 1) hx hb dX6_fewestChanges_221 (by decide) ?_
                                                  refine lv_iadd hx hb dX6_fewestChanges_222 ?_
                                                  refine lv_aload_n hx hb dX6_fewestChanges_223 rfl (lv_at hl 1 rfl) ?_
                                                  refine r_get C hW (K := RX6) (T := TX6) (N := 12) (v := .ref (A (b + 5))) 0 0 7 rfl rfl rfl inX6_fewestChanges_X6 (by decide) (List.mem_of_getElem? (i := 1) rfl) rfl rfl dX6_fewestChanges_224 ?_
                                                  refine lv_iload hx hb dX6_fewestChanges_227 (lv_at hl 7 rfl) ?_
                                                  obtain ⟨g28, h⟩ := q_g h
                                                  refine r_iald C hW 5 0 rfl rfl g28 dX6_fewestChanges_229 ?_
                                                  refine lv_icmp_ge (tgt := 249) hx hb dX6_fewestChanges_230 (by decide) (fun e29 => ?_) (fun e29 => ?_)
                                                  · replace h := q_t e29 h
                                                    refine lv_iinc (v := (v145.1 + 2)) (lv' := [(7, .int (v145.1 + 2)), (8, .int w195), (0, .ref (A b)), (1, .int p1), (3, .int v55.1), (4, .int w73), (5, .int v124.1), (6, .int v133.1)]) hx hb dX6_fewestChanges_249 hl (k := 7) rfl rfl (by decide) rfl (fun ls hl => ?_)
                                                    refine lv_goto (tgt := 145) hx hb dX6_fewestChanges_252 (by decide) ?_
                                                    exact ih145 ((v145.1 + 2), v145.2) h _ _ hW _ (lv_sub hl [2, 3, 4, 5, 6, 7, 0] rfl)
                                                  · replace h := q_f e29 h
                                                    exact J233 () h _ _ hW _ (lv_sub hl [1, 2, 3, 4, 5, 6, 7] rfl)
                                            have J194 : ∀ (w194 : Unit), f_X6_fewestChanges_j194 v133 (lpN (f_X6_fewestChanges_l145 p1 w73 (lpN (f_X6_fewestChanges_l133 p1 w73 (lpN (f_X6_fewestChanges_l124 p1 (lpN (f_X6_fewestChanges_l55 p1) n55) v55 w73) n124) v124) n133) v133) n145) v145 w194 = some (r, x') → ∀ (H : Heap) (locs : List Loc), WdG g Z s.heap H locs [[(A b, .inr (6, [.ref (A (b + 1)), .ref (A (b + 2)), .int v145.2.2.2.1, .ref (A (b + 3)), .int v145.2.2.2.2.2.1, .ref (A (b + 4)), .int v145.2.2.2.2.2.2.2.1, .ref (A (b + 5)), .ref (A (b + 6)), .int v145.2.2.2.2.2.2.2.2.2.2.1, .int v145.2.2.2.2.2.2.2.2.2.2.2.1, .int v145.2.2.2.2.2.2.2.2.2.2.2.2]))], [(A (b + 1), .inl (gI g, 268, .inl v145.2.1))], [(A (b + 2), .inl (gI g, 1340, .inl v145.2.2.1))], [(A (b + 3), .inl (gI g, 268, .inl v145.2.2.2.2.1))], [(A (b + 4), .inl (gC g, 70, .inl v145.2.2.2.2.2.2.1))], [(A (b + 5), .inl (gI g, 3, .inl v145.2.2.2.2.2.2.2.2.1))], [(A (b + 6), .inl (gI g, 144, .inl v145.2.2.2.2.2.2.2.2.2.1))]] → ∀ ls : Array Slot, lv_has ls 9 [(0, .ref (A b)), (1, .int p1), (3, .int v55.1), (4, .int w73), (5, .int v124.1), (6, .int v133.1), (7, .int v145.1)] → W p l e R s m args below meth c H locs 0 0 Q (F0 m 194 ls []) := by
                                              intro w194 h H locs hW ls hl
                                              unfold f_X6_fewestChanges_j194 at h
                                              refine lv_iconst (v := 0) hx hb dX6_fewestChanges_194 (by decide) ?_
                                              exact J195 0 h _ _ hW _ (lv_sub hl [0, 1, 2, 3, 4, 5, 6] rfl)
                                            refine lv_if_eq (tgt := 194) hx hb dX6_fewestChanges_161 (by decide) (fun e30 => ?_) (fun e30 => ?_)
                                            · replace h := q_t e30 h
                                              exact J194 () h _ _ hW _ (lv_sub hl [0, 1, 2, 3, 4, 5, 6] rfl)
                                            · replace h := q_f e30 h
                                              refine lv_aload_n hx hb dX6_fewestChanges_164 rfl (lv_at hl 0 rfl) ?_
                                              refine r_get C hW (K := RX6) (T := TX6) (N := 12) (v := .ref (A (b + 5))) 0 0 7 rfl rfl rfl inX6_fewestChanges_X6 (by decide) (List.mem_of_getElem? (i := 1) rfl) rfl rfl dX6_fewestChanges_165 ?_
                                              refine lv_iload hx hb dX6_fewestChanges_168 (lv_at hl 5 rfl) ?_
                                              obtain ⟨g31, h⟩ := q_g h
                                              refine r_iald C hW 5 0 rfl rfl g31 dX6_fewestChanges_170 ?_
                                              refine lv_bipush (v := (-6)) hx hb dX6_fewestChanges_171 (by decide) ?_
                                              refine lv_icmp_eq (tgt := 194) hx hb dX6_fewestChanges_173 (by decide) (fun e32 => ?_) (fun e32 => ?_)
                                              · replace h := q_t e32 h
                                                exact J194 () h _ _ hW _ (lv_sub hl [0, 1, 2, 3, 4, 5, 6] rfl)
                                              · replace h := q_f e32 h
                                                refine lv_aload_n hx hb dX6_fewestChanges_176 rfl (lv_at hl 0 rfl) ?_
                                                refine lv_iload hx hb dX6_fewestChanges_177 (lv_at hl 5 rfl) ?_
                                                refine lv_iload hx hb dX6_fewestChanges_179 (lv_at hl 6 rfl) ?_
                                                refine lv_iload hx hb dX6_fewestChanges_181 (lv_at hl 3 rfl) ?_
                                                refine lv_iload_n hx hb dX6_fewestChanges_183 rfl (lv_at hl 1 rfl) ?_
                                                obtain ⟨t33, h34, h⟩ := q_b h
                                                refine r_cVi C hW (nA := 4) (As := [.int v133.1, .int v145.1, .int w73, .int p1]) (rest := []) (c_X6_canChange l g A b v145.2 v133.1 v145.1 w73 p1 _ h34) gX6_fewestChanges_X6_canChange rfl ⟨rfl, wo_X6_canChange⟩ (rmk hR rfl rfl) rfl rfl rfl rfl hl.1 (Nat.le_of_ble_eq_true rfl) rz dX6_fewestChanges_184 (n := 7) (is := [0, 1, 2, 3, 4, 5, 6]) (rs := []) (bs' := [[(A b, .inr (6, [.ref (A (b + 1)), .ref (A (b + 2)), .int v145.2.2.2.1, .ref (A (b + 3)), .int v145.2.2.2.2.2.1, .ref (A (b + 4)), .int v145.2.2.2.2.2.2.2.1, .ref (A (b + 5)), .ref (A (b + 6)), .int v145.2.2.2.2.2.2.2.2.2.2.1, .int v145.2.2.2.2.2.2.2.2.2.2.2.1, .int v145.2.2.2.2.2.2.2.2.2.2.2.2]))], [(A (b + 1), .inl (gI g, 268, .inl v145.2.1))], [(A (b + 2), .inl (gI g, 1340, .inl v145.2.2.1))], [(A (b + 3), .inl (gI g, 268, .inl v145.2.2.2.2.1))], [(A (b + 4), .inl (gC g, 70, .inl v145.2.2.2.2.2.2.1))], [(A (b + 5), .inl (gI g, 3, .inl v145.2.2.2.2.2.2.2.2.1))], [(A (b + 6), .inl (gI g, 144, .inl v145.2.2.2.2.2.2.2.2.2.1))]]) rfl rfl pm_39 rfl rfl rfl (fun H locs hW => ?_)
                                                refine lv_if_eq (tgt := 194) hx hb dX6_fewestChanges_187 (by decide) (fun e35 => ?_) (fun e35 => ?_)
                                                · replace h := q_t e35 h
                                                  exact J194 () h _ _ hW _ (lv_sub hl [0, 1, 2, 3, 4, 5, 6] rfl)
                                                · replace h := q_f e35 h
                                                  refine lv_iconst (v := 1) hx hb dX6_fewestChanges_190 (by decide) ?_
                                                  refine lv_goto (tgt := 195) hx hb dX6_fewestChanges_191 (by decide) ?_
                                                  exact J195 1 h _ _ hW _ (lv_sub hl [0, 1, 2, 3, 4, 5, 6] rfl)
                                      exact L145 3000 ((v133.1 - 1), v133.2) h _ _ hW _ (lv_sub hl [1, 2, 3, 4, 5, 6, 0] rfl)
                                exact L133 3000 (0, v124.2) h _ _ hW _ (lv_sub hl [1, 2, 3, 4, 5, 0] rfl)
                          exact L124 3000 (0, v78.2) h _ _ hW _ (lv_sub hl [1, 2, 3, 4, 0] rfl)
                        · replace h := q_f e16 h
                          refine lv_aload_n hx hb dX6_fewestChanges_84 rfl (lv_at hl 0 rfl) ?_
                          refine r_get C hW (K := RX6) (T := TX6) (N := 12) (v := .ref (A (b + 5))) 0 0 7 rfl rfl rfl inX6_fewestChanges_X6 (by decide) (List.mem_of_getElem? (i := 1) rfl) rfl rfl dX6_fewestChanges_85 ?_
                          refine lv_iload hx hb dX6_fewestChanges_88 (lv_at hl 4 rfl) ?_
                          refine lv_aload_n hx hb dX6_fewestChanges_90 rfl (lv_at hl 0 rfl) ?_
                          refine lv_iload hx hb dX6_fewestChanges_91 (lv_at hl 4 rfl) ?_
                          refine lv_iload hx hb dX6_fewestChanges_93 (lv_at hl 3 rfl) ?_
                          refine lv_iload_n hx hb dX6_fewestChanges_95 rfl (lv_at hl 1 rfl) ?_
                          obtain ⟨t36, h37, h⟩ := q_b h
                          refine r_cVi C hW (nA := 3) (As := [.int v78.1, .int w73, .int p1]) (rest := [.int v78.1, .ref (A (b + 5))]) (c_X6_isFree l g A b v78.2 v78.1 w73 p1 _ h37) gX6_fewestChanges_X6_isFree rfl ⟨rfl, wo_X6_isFree⟩ (rmk hR rfl rfl) rfl rfl rfl rfl hl.1 (Nat.le_of_ble_eq_true rfl) rz dX6_fewestChanges_96 (n := 7) (is := [0, 1, 2, 3, 4, 5, 6]) (rs := []) (bs' := [[(A b, .inr (6, [.ref (A (b + 1)), .ref (A (b + 2)), .int v78.2.2.2.1, .ref (A (b + 3)), .int v78.2.2.2.2.2.1, .ref (A (b + 4)), .int v78.2.2.2.2.2.2.2.1, .ref (A (b + 5)), .ref (A (b + 6)), .int v78.2.2.2.2.2.2.2.2.2.2.1, .int v78.2.2.2.2.2.2.2.2.2.2.2.1, .int v78.2.2.2.2.2.2.2.2.2.2.2.2]))], [(A (b + 1), .inl (gI g, 268, .inl v78.2.1))], [(A (b + 2), .inl (gI g, 1340, .inl v78.2.2.1))], [(A (b + 3), .inl (gI g, 268, .inl v78.2.2.2.2.1))], [(A (b + 4), .inl (gC g, 70, .inl v78.2.2.2.2.2.2.1))], [(A (b + 5), .inl (gI g, 3, .inl v78.2.2.2.2.2.2.2.2.1))], [(A (b + 6), .inl (gI g, 144, .inl v78.2.2.2.2.2.2.2.2.2.1))]]) rfl rfl pm_39 rfl rfl rfl (fun H locs hW => ?_)
                          refine lv_if_eq (tgt := 112) hx hb dX6_fewestChanges_99 (by decide) (fun e38 => ?_) (fun e38 => ?_)
                          · replace h := q_t e38 h
                            refine lv_bipush (v := (-6)) hx hb dX6_fewestChanges_112 (by decide) ?_
                            obtain ⟨g39, h⟩ := q_g h
                            refine r_iast C hW (bs' := [[(A b, .inr (6, [.ref (A (b + 1)), .ref (A (b + 2)), .int v78.2.2.2.1, .ref (A (b + 3)), .int v78.2.2.2.2.2.1, .ref (A (b + 4)), .int v78.2.2.2.2.2.2.2.1, .ref (A (b + 5)), .ref (A (b + 6)), .int v78.2.2.2.2.2.2.2.2.2.2.1, .int v78.2.2.2.2.2.2.2.2.2.2.2.1, .int v78.2.2.2.2.2.2.2.2.2.2.2.2]))], [(A (b + 1), .inl (gI g, 268, .inl v78.2.1))], [(A (b + 2), .inl (gI g, 1340, .inl v78.2.2.1))], [(A (b + 3), .inl (gI g, 268, .inl v78.2.2.2.2.1))], [(A (b + 4), .inl (gC g, 70, .inl v78.2.2.2.2.2.2.1))], [(A (b + 5), .inl (gI g, 3, .inl (upd v78.2.2.2.2.2.2.2.2.1 (v78.1).toNatClampNeg (-6))))], [(A (b + 6), .inl (gI g, 144, .inl v78.2.2.2.2.2.2.2.2.2.1))]]) 5 0 rfl rfl g39 dX6_fewestChanges_114 rfl (fun H locs hW => ?_)
                            refine lv_iinc (v := (v78.1 + 1)) (lv' := [(5, .int (v78.1 + 1)), (0, .ref (A b)), (1, .int p1), (3, .int v55.1), (4, .int w73)]) hx hb dX6_fewestChanges_115 hl (k := 4) rfl rfl (by decide) rfl (fun ls hl => ?_)
                            refine lv_goto (tgt := 78) hx hb dX6_fewestChanges_118 (by decide) ?_
                            exact ih78 ((v78.1 + 1), (v78.2.1, v78.2.2.1, v78.2.2.2.1, v78.2.2.2.2.1, v78.2.2.2.2.2.1, v78.2.2.2.2.2.2.1, v78.2.2.2.2.2.2.2.1, (upd v78.2.2.2.2.2.2.2.2.1 (v78.1).toNatClampNeg (-6)), v78.2.2.2.2.2.2.2.2.2.1, v78.2.2.2.2.2.2.2.2.2.2.1, v78.2.2.2.2.2.2.2.2.2.2.2.1, v78.2.2.2.2.2.2.2.2.2.2.2.2)) h _ _ hW _ (lv_sub hl [1, 2, 3, 4, 0] rfl)
                          · replace h := q_f e38 h
                            refine lv_aload_n hx hb dX6_fewestChanges_102 rfl (lv_at hl 0 rfl) ?_
                            refine r_get C hW (K := RX6) (T := TX6) (N := 12) (v := .ref (A (b + 5))) 0 0 7 rfl rfl rfl inX6_fewestChanges_X6 (by decide) (List.mem_of_getElem? (i := 1) rfl) rfl rfl dX6_fewestChanges_103 ?_
                            refine lv_iload hx hb dX6_fewestChanges_106 (lv_at hl 4 rfl) ?_
                            obtain ⟨g40, h⟩ := q_g h
                            refine r_iald C hW 5 0 rfl rfl g40 dX6_fewestChanges_108 ?_
                            refine lv_goto (tgt := 114) hx hb dX6_fewestChanges_109 (by decide) ?_
                            obtain ⟨g41, h⟩ := q_g h
                            refine r_iast C hW (bs' := [[(A b, .inr (6, [.ref (A (b + 1)), .ref (A (b + 2)), .int v78.2.2.2.1, .ref (A (b + 3)), .int v78.2.2.2.2.2.1, .ref (A (b + 4)), .int v78.2.2.2.2.2.2.2.1, .ref (A (b + 5)), .ref (A (b + 6)), .int v78.2.2.2.2.2.2.2.2.2.2.1, .int v78.2.2.2.2.2.2.2.2.2.2.2.1, .int v78.2.2.2.2.2.2.2.2.2.2.2.2]))], [(A (b + 1), .inl (gI g, 268, .inl v78.2.1))], [(A (b + 2), .inl (gI g, 1340, .inl v78.2.2.1))], [(A (b + 3), .inl (gI g, 268, .inl v78.2.2.2.2.1))], [(A (b + 4), .inl (gC g, 70, .inl v78.2.2.2.2.2.2.1))], [(A (b + 5), .inl (gI g, 3, .inl (upd v78.2.2.2.2.2.2.2.2.1 (v78.1).toNatClampNeg (v78.2.2.2.2.2.2.2.2.1 (v78.1).toNatClampNeg))))], [(A (b + 6), .inl (gI g, 144, .inl v78.2.2.2.2.2.2.2.2.2.1))]]) 5 0 rfl rfl g41 dX6_fewestChanges_114 rfl (fun H locs hW => ?_)
                            refine lv_iinc (v := (v78.1 + 1)) (lv' := [(5, .int (v78.1 + 1)), (0, .ref (A b)), (1, .int p1), (3, .int v55.1), (4, .int w73)]) hx hb dX6_fewestChanges_115 hl (k := 4) rfl rfl (by decide) rfl (fun ls hl => ?_)
                            refine lv_goto (tgt := 78) hx hb dX6_fewestChanges_118 (by decide) ?_
                            exact ih78 ((v78.1 + 1), (v78.2.1, v78.2.2.1, v78.2.2.2.1, v78.2.2.2.2.1, v78.2.2.2.2.2.1, v78.2.2.2.2.2.2.1, v78.2.2.2.2.2.2.2.1, (upd v78.2.2.2.2.2.2.2.2.1 (v78.1).toNatClampNeg (v78.2.2.2.2.2.2.2.2.1 (v78.1).toNatClampNeg)), v78.2.2.2.2.2.2.2.2.2.1, v78.2.2.2.2.2.2.2.2.2.2.1, v78.2.2.2.2.2.2.2.2.2.2.2.1, v78.2.2.2.2.2.2.2.2.2.2.2.2)) h _ _ hW _ (lv_sub hl [1, 2, 3, 4, 0] rfl)
                    exact L78 3000 (0, v55.2) h _ _ hW _ (lv_sub hl [2, 3, 4, 1, 0] rfl)
                  refine lv_if_ne (tgt := 69) hx hb dX6_fewestChanges_62 (by decide) (fun e42 => ?_) (fun e42 => ?_)
                  · replace h := q_f e42 h
                    refine lv_bipush (v := 15) hx hb dX6_fewestChanges_69 (by decide) ?_
                    refine lv_iload_n hx hb dX6_fewestChanges_71 rfl (lv_at hl 2 rfl) ?_
                    refine lv_isub hx hb dX6_fewestChanges_72 ?_
                    exact J73 (15 - v55.1) h _ _ hW _ (lv_sub hl [0, 1, 2] rfl)
                  · replace h := q_t e42 h
                    refine lv_iload_n hx hb dX6_fewestChanges_65 rfl (lv_at hl 2 rfl) ?_
                    refine lv_goto (tgt := 73) hx hb dX6_fewestChanges_66 (by decide) ?_
                    exact J73 v55.1 h _ _ hW _ (lv_sub hl [0, 1, 2] rfl)
            exact L55 3000 (0, v25.2) h _ _ hW _ (lv_sub hl [1, 2, 0] rfl)
          · replace h := q_f e7 h
            refine lv_aload_n hx hb dX6_fewestChanges_30 rfl (lv_at hl 0 rfl) ?_
            refine r_get C hW (K := RX6) (T := TX6) (N := 12) (v := .ref (A (b + 5))) 0 0 7 rfl rfl rfl inX6_fewestChanges_X6 (by decide) (List.mem_of_getElem? (i := 1) rfl) rfl rfl dX6_fewestChanges_31 ?_
            refine lv_iload_n hx hb dX6_fewestChanges_34 rfl (lv_at hl 3 rfl) ?_
            refine lv_iload_n hx hb dX6_fewestChanges_35 rfl (lv_at hl 3 rfl) ?_
            refine lv_iload_n hx hb dX6_fewestChanges_36 rfl (lv_at hl 2 rfl) ?_
            refine lv_icmp_ne (tgt := 44) hx hb dX6_fewestChanges_37 (by decide) (fun e43 => ?_) (fun e43 => ?_)
            · replace h := q_f e43 h
              refine lv_bipush (v := (-6)) hx hb dX6_fewestChanges_44 (by decide) ?_
              obtain ⟨g44, h⟩ := q_g h
              refine r_iast C hW (bs' := [[(A b, .inr (6, [.ref (A (b + 1)), .ref (A (b + 2)), .int v25.2.2.2.1, .ref (A (b + 3)), .int v25.2.2.2.2.2.1, .ref (A (b + 4)), .int v25.2.2.2.2.2.2.2.1, .ref (A (b + 5)), .ref (A (b + 6)), .int v25.2.2.2.2.2.2.2.2.2.2.1, .int v25.2.2.2.2.2.2.2.2.2.2.2.1, .int v25.2.2.2.2.2.2.2.2.2.2.2.2]))], [(A (b + 1), .inl (gI g, 268, .inl v25.2.1))], [(A (b + 2), .inl (gI g, 1340, .inl v25.2.2.1))], [(A (b + 3), .inl (gI g, 268, .inl v25.2.2.2.2.1))], [(A (b + 4), .inl (gC g, 70, .inl v25.2.2.2.2.2.2.1))], [(A (b + 5), .inl (gI g, 3, .inl (upd v25.2.2.2.2.2.2.2.2.1 (v25.1).toNatClampNeg (-6))))], [(A (b + 6), .inl (gI g, 144, .inl v25.2.2.2.2.2.2.2.2.2.1))]]) 5 0 rfl rfl g44 dX6_fewestChanges_46 rfl (fun H locs hW => ?_)
              refine lv_iinc (v := (v25.1 + 1)) (lv' := [(3, .int (v25.1 + 1)), (0, .ref (A b)), (1, .int p1), (2, .int p2)]) hx hb dX6_fewestChanges_47 hl (k := 3) rfl rfl (by decide) rfl (fun ls hl => ?_)
              refine lv_goto (tgt := 25) hx hb dX6_fewestChanges_50 (by decide) ?_
              exact ih25 ((v25.1 + 1), (v25.2.1, v25.2.2.1, v25.2.2.2.1, v25.2.2.2.2.1, v25.2.2.2.2.2.1, v25.2.2.2.2.2.2.1, v25.2.2.2.2.2.2.2.1, (upd v25.2.2.2.2.2.2.2.2.1 (v25.1).toNatClampNeg (-6)), v25.2.2.2.2.2.2.2.2.2.1, v25.2.2.2.2.2.2.2.2.2.2.1, v25.2.2.2.2.2.2.2.2.2.2.2.1, v25.2.2.2.2.2.2.2.2.2.2.2.2)) h _ _ hW _ (lv_sub hl [1, 2, 3, 0] rfl)
            · replace h := q_t e43 h
              refine lv_iconst (v := 0) hx hb dX6_fewestChanges_40 (by decide) ?_
              refine lv_goto (tgt := 46) hx hb dX6_fewestChanges_41 (by decide) ?_
              obtain ⟨g45, h⟩ := q_g h
              refine r_iast C hW (bs' := [[(A b, .inr (6, [.ref (A (b + 1)), .ref (A (b + 2)), .int v25.2.2.2.1, .ref (A (b + 3)), .int v25.2.2.2.2.2.1, .ref (A (b + 4)), .int v25.2.2.2.2.2.2.2.1, .ref (A (b + 5)), .ref (A (b + 6)), .int v25.2.2.2.2.2.2.2.2.2.2.1, .int v25.2.2.2.2.2.2.2.2.2.2.2.1, .int v25.2.2.2.2.2.2.2.2.2.2.2.2]))], [(A (b + 1), .inl (gI g, 268, .inl v25.2.1))], [(A (b + 2), .inl (gI g, 1340, .inl v25.2.2.1))], [(A (b + 3), .inl (gI g, 268, .inl v25.2.2.2.2.1))], [(A (b + 4), .inl (gC g, 70, .inl v25.2.2.2.2.2.2.1))], [(A (b + 5), .inl (gI g, 3, .inl (upd v25.2.2.2.2.2.2.2.2.1 (v25.1).toNatClampNeg 0)))], [(A (b + 6), .inl (gI g, 144, .inl v25.2.2.2.2.2.2.2.2.2.1))]]) 5 0 rfl rfl g45 dX6_fewestChanges_46 rfl (fun H locs hW => ?_)
              refine lv_iinc (v := (v25.1 + 1)) (lv' := [(3, .int (v25.1 + 1)), (0, .ref (A b)), (1, .int p1), (2, .int p2)]) hx hb dX6_fewestChanges_47 hl (k := 3) rfl rfl (by decide) rfl (fun ls hl => ?_)
              refine lv_goto (tgt := 25) hx hb dX6_fewestChanges_50 (by decide) ?_
              exact ih25 ((v25.1 + 1), (v25.2.1, v25.2.2.1, v25.2.2.2.1, v25.2.2.2.2.1, v25.2.2.2.2.2.1, v25.2.2.2.2.2.2.1, v25.2.2.2.2.2.2.2.1, (upd v25.2.2.2.2.2.2.2.2.1 (v25.1).toNatClampNeg 0), v25.2.2.2.2.2.2.2.2.2.1, v25.2.2.2.2.2.2.2.2.2.2.1, v25.2.2.2.2.2.2.2.2.2.2.2.1, v25.2.2.2.2.2.2.2.2.2.2.2.2)) h _ _ hW _ (lv_sub hl [1, 2, 3, 0] rfl)
      exact L25 3000 (0, x) h _ _ hW _ (lv_sub hl [1, 2, 3, 0] rfl)
    · replace h := q_t e6 h
      refine lv_bipush (v := (-2)) hx hb dX6_fewestChanges_20 (by decide) ?_
      cases h
      exact E _ _ _ _ _ hW rfl rfl dX6_fewestChanges_22
  · replace h := q_t e3 h
    refine lv_iconst (v := (-1)) hx hb dX6_fewestChanges_9 (by decide) ?_
    cases h
    exact E _ _ _ _ _ hW rfl rfl dX6_fewestChanges_10
