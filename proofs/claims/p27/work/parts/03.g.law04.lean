def f_L_drive_j384 (w384 : Int32) : Option (Int32) :=
if w384 = 99 then (
some (-6))
else (
some w384)
def f_L_drive_j356 (w16 : Int32) (v77 : Int32 × TV48s) (w356 : Int32) : Option (Int32) :=
if (32 + w16) < 0 ∨ 48 ≤ (32 + w16).toNatClampNeg then none else
if w356 ≤ (v77.2 (32 + w16).toNatClampNeg) then (
f_L_drive_j384 w356)
else (
if (32 + w16) < 0 ∨ 48 ≤ (32 + w16).toNatClampNeg then none else
f_L_drive_j384 (v77.2 (32 + w16).toNatClampNeg))
def f_L_drive_j232 (x : TV48s) (y : TV32s) (p1 : Int32) (v88 : Int32 × Int32 × TV48s) (k197 : (Int32 × Int32 × TV48s) → Option (Int32)) (v197 : Int32 × Int32 × TV48s) (w232 : Int32) : Option (Int32) :=
if w232 = 0 then (
k197 (v197.1, (v197.2.1 + 1), v197.2.2))
else (
if v88.2.1 < 0 ∨ 48 ≤ (v88.2.1).toNatClampNeg then none else
if 99 ≤ (v197.2.2 (v88.2.1).toNatClampNeg) then (
k197 (v197.1, (v197.2.1 + 1), v197.2.2))
else (
(f_L_change x y (v88.2.1 / 16) v197.2.1 (v88.2.1 - v88.2.1 / 16 * 16) p1).bind fun t24 =>
if t24 = 0 then (
k197 (v197.1, (v197.2.1 + 1), v197.2.2))
else (
if v88.2.1 < 0 ∨ 48 ≤ (v88.2.1).toNatClampNeg then none else
if ((16 * v197.2.1) + (v88.2.1 - v88.2.1 / 16 * 16)) < 0 ∨ 48 ≤ ((16 * v197.2.1) + (v88.2.1 - v88.2.1 / 16 * 16)).toNatClampNeg then none else
if (v197.2.2 ((16 * v197.2.1) + (v88.2.1 - v88.2.1 / 16 * 16)).toNatClampNeg) ≤ ((v197.2.2 (v88.2.1).toNatClampNeg) + 1) then (
k197 (v197.1, (v197.2.1 + 1), v197.2.2))
else (
if v88.2.1 < 0 ∨ 48 ≤ (v88.2.1).toNatClampNeg then none else
if ((16 * v197.2.1) + (v88.2.1 - v88.2.1 / 16 * 16)) < 0 ∨ 48 ≤ ((16 * v197.2.1) + (v88.2.1 - v88.2.1 / 16 * 16)).toNatClampNeg then none else
k197 (1, (v197.2.1 + 1), (upd v197.2.2 ((16 * v197.2.1) + (v88.2.1 - v88.2.1 / 16 * 16)).toNatClampNeg ((v197.2.2 (v88.2.1).toNatClampNeg) + 1)))))))
def f_L_drive_j227 (x : TV48s) (y : TV32s) (p1 : Int32) (v88 : Int32 × Int32 × TV48s) (k197 : (Int32 × Int32 × TV48s) → Option (Int32)) (v197 : Int32 × Int32 × TV48s) (w227 : Unit) : Option (Int32) :=
f_L_drive_j232 x y p1 v88 k197 v197 1
def f_L_drive_l197 (x : TV48s) (y : TV32s) (p1 : Int32) (k88 : (Int32 × Int32 × TV48s) → Option (Int32)) (v88 : Int32 × Int32 × TV48s) (k197 : (Int32 × Int32 × TV48s) → Option (Int32)) (v197 : Int32 × Int32 × TV48s) : Option (Int32) :=
if 3 ≤ v197.2.1 then (
k88 (v197.1, (v88.2.1 + 1), v197.2.2))
else (
if (v197.2.1 - (v88.2.1 / 16)) = 1 then (
f_L_drive_j227 x y p1 v88 k197 v197 ())
else (
if (v197.2.1 - (v88.2.1 / 16)) = (-1) then (
f_L_drive_j227 x y p1 v88 k197 v197 ())
else (
f_L_drive_j232 x y p1 v88 k197 v197 0)))
def f_L_drive_j194 (x : TV48s) (y : TV32s) (p1 : Int32) (k88 : (Int32 × Int32 × TV48s) → Option (Int32)) (v88 : Int32 × Int32 × TV48s) (w194 : Int32 × TV48s) : Option (Int32) :=
lpN (f_L_drive_l197 x y p1 k88 v88) 3000 (w194.1, 0, w194.2)
def f_L_drive_j117 (x : TV48s) (y : TV32s) (p1 : Int32) (k88 : (Int32 × Int32 × TV48s) → Option (Int32)) (v88 : Int32 × Int32 × TV48s) (w117 : Int32) : Option (Int32) :=
if v88.2.1 < 0 ∨ 48 ≤ (v88.2.1).toNatClampNeg then none else
if 99 ≤ (v88.2.2 (v88.2.1).toNatClampNeg) then (
f_L_drive_j194 x y p1 k88 v88 (v88.1, v88.2.2))
else (
if w117 < 0 then (
f_L_drive_j194 x y p1 k88 v88 (v88.1, v88.2.2))
else (
if 16 ≤ w117 then (
f_L_drive_j194 x y p1 k88 v88 (v88.1, v88.2.2))
else (
(f_L_free x (v88.2.1 / 16) w117 p1).bind fun t39 =>
if t39 = 0 then (
f_L_drive_j194 x y p1 k88 v88 (v88.1, v88.2.2))
else (
if v88.2.1 < 0 ∨ 48 ≤ (v88.2.1).toNatClampNeg then none else
if ((v88.2.1 - (v88.2.1 - v88.2.1 / 16 * 16)) + w117) < 0 ∨ 48 ≤ ((v88.2.1 - (v88.2.1 - v88.2.1 / 16 * 16)) + w117).toNatClampNeg then none else
if (v88.2.2 ((v88.2.1 - (v88.2.1 - v88.2.1 / 16 * 16)) + w117).toNatClampNeg) ≤ (v88.2.2 (v88.2.1).toNatClampNeg) then (
f_L_drive_j194 x y p1 k88 v88 (v88.1, v88.2.2))
else (
if v88.2.1 < 0 ∨ 48 ≤ (v88.2.1).toNatClampNeg then none else
if ((v88.2.1 - (v88.2.1 - v88.2.1 / 16 * 16)) + w117) < 0 ∨ 48 ≤ ((v88.2.1 - (v88.2.1 - v88.2.1 / 16 * 16)) + w117).toNatClampNeg then none else
f_L_drive_j194 x y p1 k88 v88 (1, (upd v88.2.2 ((v88.2.1 - (v88.2.1 - v88.2.1 / 16 * 16)) + w117).toNatClampNeg (v88.2.2 (v88.2.1).toNatClampNeg))))))))
def f_L_drive_l88 (x : TV48s) (y : TV32s) (p1 : Int32) (k77 : (Int32 × TV48s) → Option (Int32)) (k88 : (Int32 × Int32 × TV48s) → Option (Int32)) (v88 : Int32 × Int32 × TV48s) : Option (Int32) :=
if 48 ≤ v88.2.1 then (
k77 (v88.1, v88.2.2))
else (
if p1 = 0 then (
f_L_drive_j117 x y p1 k88 v88 ((v88.2.1 - v88.2.1 / 16 * 16) + 1))
else (
f_L_drive_j117 x y p1 k88 v88 ((v88.2.1 - v88.2.1 / 16 * 16) - 1)))
def f_L_drive_l77 (x : TV48s) (y : TV32s) (p1 : Int32) (w16 : Int32) (k77 : (Int32 × TV48s) → Option (Int32)) (v77 : Int32 × TV48s) : Option (Int32) :=
if v77.1 = 0 then (
if w16 < 0 ∨ 48 ≤ (w16).toNatClampNeg then none else
if (16 + w16) < 0 ∨ 48 ≤ (16 + w16).toNatClampNeg then none else
if (v77.2 (16 + w16).toNatClampNeg) ≤ (v77.2 (w16).toNatClampNeg) then (
if (16 + w16) < 0 ∨ 48 ≤ (16 + w16).toNatClampNeg then none else
f_L_drive_j356 w16 v77 (v77.2 (16 + w16).toNatClampNeg))
else (
if w16 < 0 ∨ 48 ≤ (w16).toNatClampNeg then none else
f_L_drive_j356 w16 v77 (v77.2 (w16).toNatClampNeg)))
else (
lpN (f_L_drive_l88 x y p1 k77) 3000 (0, 0, v77.2))
def f_L_drive_j73 (x : TV48s) (y : TV32s) (p1 : Int32) (p2 : Int32) (w16 : Int32) (v21 : Int32 × TV48s) (w73 : Int32) : Option (Int32) :=
if (((16 * p2) + 15) - w16) < 0 ∨ 48 ≤ (((16 * p2) + 15) - w16).toNatClampNeg then none else
lpN (f_L_drive_l77 x y p1 w16) 6000 (1, (upd v21.2 (((16 * p2) + 15) - w16).toNatClampNeg w73))
def f_L_drive_l21 (x : TV48s) (y : TV32s) (p1 : Int32) (p2 : Int32) (w16 : Int32) (k21 : (Int32 × TV48s) → Option (Int32)) (v21 : Int32 × TV48s) : Option (Int32) :=
if 48 ≤ v21.1 then (
(f_L_free x p2 (15 - w16) p1).bind fun t2 =>
if t2 = 0 then (
f_L_drive_j73 x y p1 p2 w16 v21 99)
else (
f_L_drive_j73 x y p1 p2 w16 v21 0))
else (
if v21.1 < 0 ∨ 48 ≤ (v21.1).toNatClampNeg then none else
k21 ((v21.1 + 1), (upd v21.2 (v21.1).toNatClampNeg 99)))
def f_L_drive_j16 (x : TV48s) (y : TV32s) (p1 : Int32) (p2 : Int32) (w16 : Int32) : Option (Int32) :=
lpN (f_L_drive_l21 x y p1 p2 w16) 3000 (0, (fun _ => 0))
def f_L_drive (x : TV48s) (y : TV32s) (p1 : Int32) (p2 : Int32) : Option (Int32) :=
if p1 = 0 then (
f_L_drive_j16 x y p1 p2 15)
else (
f_L_drive_j16 x y p1 p2 0)
theorem wo_L_drive : wordsOk yL_drive 4 := by decide +kernel
set_option maxHeartbeats 4000000 in
set_option maxRecDepth 100000 in
theorem c_L_drive (l : Launch) (g : GG) (A : Nat → Nat) (b : Nat) (A2 : Nat → Nat) (b2 : Nat) (x : TV48s) (y : TV32s) (p1 : Int32) (p2 : Int32) (r : Int32) (h : f_L_drive x y p1 p2 = some r) : CIm l yL_drive wsL_drive 2 49 1 48 g [.ref (A b), .ref (A2 b2), .int p1, .int p2] (wV48 g A b x ++ wV32 g A2 b2 y) r (wV48 g A b x ++ wV32 g A2 b2 y) := by
  refine CIm.mk (own := RL) (by decide) rfl rfl (Nat.le_of_ble_eq_true rfl) ?_
  intro p e R s m args below meth c Z Q C E hR hz H hW ls hl
  have hx := C.1.1
  have hb := C.1.2.1
  have hown := C.1.2.2.2.1
  replace hW : WdG g Z s.heap H [] [[(A b, .inl (gI g, 48, .inl x))], [(A2 b2, .inl (gI g, 32, .inl y))]] := hW.re rfl
  replace hl : lv_has ls 12 [(0, .ref (A b)), (1, .ref (A2 b2)), (2, .int p1), (3, .int p2)] := hl
  unfold f_L_drive at h
  refine lv_bipush (v := 48) hx hb dL_drive_0 (by decide) ?_
  refine r_newaI C hW (n := 48) (by decide) (by decide) (Nat.le_of_ble_eq_true rfl) (List.mem_of_getElem? (i := 1) rfl) (by rw [hz.1]; omega) (by rw [hz.2]; omega) dL_drive_2 (fun q H hW => ?_)
  obtain ⟨A3, rfl⟩ : ∃ A3 : Nat → Nat, A3 0 = q := ⟨fun _ => q, rfl⟩
  replace hW : WdG g Z s.heap H _ [[(A b, .inl (gI g, 48, .inl x))], [(A2 b2, .inl (gI g, 32, .inl y))], [(A3 0, .inl (gI g, 48, .inl (fun _ => 0)))]] := hW
  refine lv_astore (lv' := [(4, .ref (A3 0)), (0, .ref (A b)), (1, .ref (A2 b2)), (2, .int p1), (3, .int p2)]) hx hb dL_drive_4 hl (by decide) rfl (fun ls hl => ?_)
  refine lv_iload_n hx hb dL_drive_6 rfl (lv_at hl 3 rfl) ?_
  have J16 : ∀ (w16 : Int32), f_L_drive_j16 x y p1 p2 w16 = some r → ∀ (H : Heap) (locs : List Loc), WdG g Z s.heap H locs [[(A b, .inl (gI g, 48, .inl x))], [(A2 b2, .inl (gI g, 32, .inl y))], [(A3 0, .inl (gI g, 48, .inl (fun _ => 0)))]] → ∀ ls : Array Slot, lv_has ls 12 [(0, .ref (A b)), (1, .ref (A2 b2)), (2, .int p1), (3, .int p2), (4, .ref (A3 0))] → W p l e R s m args below meth c H locs (0 + 1) (0 + 48) Q (F0 m 16 ls [.int w16]) := by
    intro w16 h H locs hW ls hl
    unfold f_L_drive_j16 at h
    refine lv_istore (lv' := [(5, .int w16), (0, .ref (A b)), (1, .ref (A2 b2)), (2, .int p1), (3, .int p2), (4, .ref (A3 0))]) hx hb dL_drive_16 hl (by decide) rfl (fun ls hl => ?_)
    refine lv_iconst (v := 0) hx hb dL_drive_18 (by decide) ?_
    refine lv_istore (lv' := [(6, .int 0), (5, .int w16), (0, .ref (A b)), (1, .ref (A2 b2)), (2, .int p1), (3, .int p2), (4, .ref (A3 0))]) hx hb dL_drive_19 hl (by decide) rfl (fun ls hl => ?_)
    have L21 : ∀ n21 : Nat, ∀ (v21 : Int32 × TV48s), lpN (f_L_drive_l21 x y p1 p2 w16) n21 v21 = some r → ∀ (H : Heap) (locs : List Loc), WdG g Z s.heap H locs [[(A b, .inl (gI g, 48, .inl x))], [(A2 b2, .inl (gI g, 32, .inl y))], [(A3 0, .inl (gI g, 48, .inl v21.2))]] → ∀ ls : Array Slot, lv_has ls 12 [(0, .ref (A b)), (1, .ref (A2 b2)), (2, .int p1), (3, .int p2), (4, .ref (A3 0)), (5, .int w16), (6, .int v21.1)] → W p l e R s m args below meth c H locs (0 + 1) (0 + 48) Q (F0 m 21 ls []) := by
      intro n21
      induction n21 with
      | zero => intro v21 h; exact absurd (show none = some r from h) (fun h => by cases h)
      | succ n21 ih21 =>
        intro v21 h H locs hW ls hl
        replace h : f_L_drive_l21 x y p1 p2 w16 (lpN (f_L_drive_l21 x y p1 p2 w16) n21) v21 = some r := h
        unfold f_L_drive_l21 at h
        refine lv_iload hx hb dL_drive_21 (lv_at hl 6 rfl) ?_
        refine lv_bipush (v := 48) hx hb dL_drive_23 (by decide) ?_
        refine lv_icmp_ge (tgt := 41) hx hb dL_drive_25 (by decide) (fun e1 => ?_) (fun e1 => ?_)
        · replace h := q_t e1 h
          refine lv_aload hx hb dL_drive_41 (lv_at hl 4 rfl) ?_
          refine lv_bipush (v := 16) hx hb dL_drive_43 (by decide) ?_
          refine lv_iload_n hx hb dL_drive_45 rfl (lv_at hl 3 rfl) ?_
          refine lv_imul hx hb dL_drive_46 ?_
          refine lv_bipush (v := 15) hx hb dL_drive_47 (by decide) ?_
          refine lv_iadd hx hb dL_drive_49 ?_
          refine lv_iload hx hb dL_drive_50 (lv_at hl 5 rfl) ?_
          refine lv_isub hx hb dL_drive_52 ?_
          refine lv_aload_n hx hb dL_drive_53 rfl (lv_at hl 0 rfl) ?_
          refine lv_iload_n hx hb dL_drive_54 rfl (lv_at hl 3 rfl) ?_
          refine lv_bipush (v := 15) hx hb dL_drive_55 (by decide) ?_
          refine lv_iload hx hb dL_drive_57 (lv_at hl 5 rfl) ?_
          refine lv_isub hx hb dL_drive_59 ?_
          refine lv_iload_n hx hb dL_drive_60 rfl (lv_at hl 2 rfl) ?_
          obtain ⟨t2, h3, h⟩ := q_b h
          refine r_cSi C hW (nA := 4) (As := [.ref (A b), .int p2, .int (15 - w16), .int p1]) (rest := [.int (((16 * p2) + 15) - w16), .ref (A3 0)]) (c_L_free l g A b x p2 (15 - w16) p1 _ h3) gL_drive_L_free rfl wo_L_free (rmk hR rfl rfl) rfl rfl hl.1 (Nat.le_of_ble_eq_true rfl) ⟨by rw [hz.1]; omega, by rw [hz.2]; omega⟩ dL_drive_61 (n := 3) (is := [0]) (rs := [1, 2]) (bs' := [[(A b, .inl (gI g, 48, .inl x))], [(A2 b2, .inl (gI g, 32, .inl y))], [(A3 0, .inl (gI g, 48, .inl v21.2))]]) rfl rfl pm_6661b00d rfl rfl rfl (fun H locs hW => ?_)
          have J73 : ∀ (w73 : Int32), f_L_drive_j73 x y p1 p2 w16 v21 w73 = some r → ∀ (H : Heap) (locs : List Loc), WdG g Z s.heap H locs [[(A b, .inl (gI g, 48, .inl x))], [(A2 b2, .inl (gI g, 32, .inl y))], [(A3 0, .inl (gI g, 48, .inl v21.2))]] → ∀ ls : Array Slot, lv_has ls 12 [(0, .ref (A b)), (1, .ref (A2 b2)), (2, .int p1), (4, .ref (A3 0)), (5, .int w16)] → W p l e R s m args below meth c H locs (0 + 1) (0 + 48) Q (F0 m 73 ls [.int w73, .int (((16 * p2) + 15) - w16), .ref (A3 0)]) := by
            intro w73 h H locs hW ls hl
            unfold f_L_drive_j73 at h
            obtain ⟨g4, h⟩ := q_g h
            refine r_iast C hW (bs' := [[(A b, .inl (gI g, 48, .inl x))], [(A2 b2, .inl (gI g, 32, .inl y))], [(A3 0, .inl (gI g, 48, .inl (upd v21.2 (((16 * p2) + 15) - w16).toNatClampNeg w73)))]]) 2 0 rfl rfl g4 dL_drive_73 rfl (fun H locs hW => ?_)
            refine lv_iconst (v := 1) hx hb dL_drive_74 (by decide) ?_
            refine lv_istore (lv' := [(6, .int 1), (0, .ref (A b)), (1, .ref (A2 b2)), (2, .int p1), (4, .ref (A3 0)), (5, .int w16)]) hx hb dL_drive_75 hl (by decide) rfl (fun ls hl => ?_)
            have L77 : ∀ n77 : Nat, ∀ (v77 : Int32 × TV48s), lpN (f_L_drive_l77 x y p1 w16) n77 v77 = some r → ∀ (H : Heap) (locs : List Loc), WdG g Z s.heap H locs [[(A b, .inl (gI g, 48, .inl x))], [(A2 b2, .inl (gI g, 32, .inl y))], [(A3 0, .inl (gI g, 48, .inl v77.2))]] → ∀ ls : Array Slot, lv_has ls 12 [(0, .ref (A b)), (1, .ref (A2 b2)), (2, .int p1), (4, .ref (A3 0)), (5, .int w16), (6, .int v77.1)] → W p l e R s m args below meth c H locs (0 + 1) (0 + 48) Q (F0 m 77 ls []) := by
              intro n77
              induction n77 with
              | zero => intro v77 h; exact absurd (show none = some r from h) (fun h => by cases h)
              | succ n77 ih77 =>
                intro v77 h H locs hW ls hl
                replace h : f_L_drive_l77 x y p1 w16 (lpN (f_L_drive_l77 x y p1 w16) n77) v77 = some r := h
                unfold f_L_drive_l77 at h
                refine lv_iload hx hb dL_drive_77 (lv_at hl 5 rfl) ?_
                refine lv_if_eq (tgt := 324) hx hb dL_drive_79 (by decide) (fun e5 => ?_) (fun e5 => ?_)
                · replace h := q_t e5 h
                  refine lv_aload hx hb dL_drive_324 (lv_at hl 3 rfl) ?_
                  refine lv_iload hx hb dL_drive_326 (lv_at hl 4 rfl) ?_
                  obtain ⟨g6, h⟩ := q_g h
                  refine r_iald C hW 2 0 rfl rfl g6 dL_drive_328 ?_
                  refine lv_aload hx hb dL_drive_329 (lv_at hl 3 rfl) ?_
                  refine lv_bipush (v := 16) hx hb dL_drive_331 (by decide) ?_
                  refine lv_iload hx hb dL_drive_333 (lv_at hl 4 rfl) ?_
                  refine lv_iadd hx hb dL_drive_335 ?_
                  obtain ⟨g7, h⟩ := q_g h
                  refine r_iald C hW 2 0 rfl rfl g7 dL_drive_336 ?_
                  have J356 : ∀ (w356 : Int32), f_L_drive_j356 w16 v77 w356 = some r → ∀ (H : Heap) (locs : List Loc), WdG g Z s.heap H locs [[(A b, .inl (gI g, 48, .inl x))], [(A2 b2, .inl (gI g, 32, .inl y))], [(A3 0, .inl (gI g, 48, .inl v77.2))]] → ∀ ls : Array Slot, lv_has ls 12 [(4, .ref (A3 0)), (5, .int w16)] → W p l e R s m args below meth c H locs (0 + 1) (0 + 48) Q (F0 m 356 ls [.int w356]) := by
                    intro w356 h H locs hW ls hl
                    unfold f_L_drive_j356 at h
                    refine lv_istore (lv' := [(7, .int w356), (4, .ref (A3 0)), (5, .int w16)]) hx hb dL_drive_356 hl (by decide) rfl (fun ls hl => ?_)
                    refine lv_aload hx hb dL_drive_358 (lv_at hl 1 rfl) ?_
                    refine lv_bipush (v := 32) hx hb dL_drive_360 (by decide) ?_
                    refine lv_iload hx hb dL_drive_362 (lv_at hl 2 rfl) ?_
                    refine lv_iadd hx hb dL_drive_364 ?_
                    obtain ⟨g8, h⟩ := q_g h
                    refine r_iald C hW 2 0 rfl rfl g8 dL_drive_365 ?_
                    refine lv_iload hx hb dL_drive_366 (lv_at hl 0 rfl) ?_
                    have J384 : ∀ (w384 : Int32), f_L_drive_j384 w384 = some r → ∀ (H : Heap) (locs : List Loc), WdG g Z s.heap H locs [[(A b, .inl (gI g, 48, .inl x))], [(A2 b2, .inl (gI g, 32, .inl y))], [(A3 0, .inl (gI g, 48, .inl v77.2))]] → ∀ ls : Array Slot, lv_has ls 12 [] → W p l e R s m args below meth c H locs (0 + 1) (0 + 48) Q (F0 m 384 ls [.int w384]) := by
                      intro w384 h H locs hW ls hl
                      unfold f_L_drive_j384 at h
                      refine lv_istore (lv' := [(7, .int w384)]) hx hb dL_drive_384 hl (by decide) rfl (fun ls hl => ?_)
                      refine lv_iload hx hb dL_drive_386 (lv_at hl 0 rfl) ?_
                      refine lv_bipush (v := 99) hx hb dL_drive_388 (by decide) ?_
                      refine lv_icmp_ne (tgt := 398) hx hb dL_drive_390 (by decide) (fun e9 => ?_) (fun e9 => ?_)
                      · replace h := q_f e9 h
                        refine lv_iload hx hb dL_drive_398 (lv_at hl 0 rfl) ?_
                        cases h
                        refine W.widen (k := 1) (n := 48) (by omega) (by omega) ?_
                        exact E _ _ _ _ [[(A b, .inl (gI g, 48, .inl x))], [(A2 b2, .inl (gI g, 32, .inl y))]] (hW.cut (cs := [[(A3 0, .inl (gI g, 48, .inl v77.2))]]) rfl) rfl rfl dL_drive_400
                      · replace h := q_t e9 h
                        refine lv_bipush (v := (-6)) hx hb dL_drive_393 (by decide) ?_
                        refine lv_goto (tgt := 400) hx hb dL_drive_395 (by decide) ?_
                        cases h
                        refine W.widen (k := 1) (n := 48) (by omega) (by omega) ?_
                        exact E _ _ _ _ [[(A b, .inl (gI g, 48, .inl x))], [(A2 b2, .inl (gI g, 32, .inl y))]] (hW.cut (cs := [[(A3 0, .inl (gI g, 48, .inl v77.2))]]) rfl) rfl rfl dL_drive_400
                    refine lv_icmp_ge (tgt := 382) hx hb dL_drive_368 (by decide) (fun e10 => ?_) (fun e10 => ?_)
                    · replace h := q_t e10 h
                      refine lv_iload hx hb dL_drive_382 (lv_at hl 0 rfl) ?_
                      exact J384 w356 h _ _ hW _ (lv_sub hl [] rfl)
                    · replace h := q_f e10 h
                      refine lv_aload hx hb dL_drive_371 (lv_at hl 1 rfl) ?_
                      refine lv_bipush (v := 32) hx hb dL_drive_373 (by decide) ?_
                      refine lv_iload hx hb dL_drive_375 (lv_at hl 2 rfl) ?_
                      refine lv_iadd hx hb dL_drive_377 ?_
                      obtain ⟨g11, h⟩ := q_g h
                      refine r_iald C hW 2 0 rfl rfl g11 dL_drive_378 ?_
                      refine lv_goto (tgt := 384) hx hb dL_drive_379 (by decide) ?_
                      exact J384 (v77.2 (32 + w16).toNatClampNeg) h _ _ hW _ (lv_sub hl [] rfl)
                  refine lv_icmp_ge (tgt := 348) hx hb dL_drive_337 (by decide) (fun e12 => ?_) (fun e12 => ?_)
                  · replace h := q_t e12 h
                    refine lv_aload hx hb dL_drive_348 (lv_at hl 3 rfl) ?_
                    refine lv_bipush (v := 16) hx hb dL_drive_350 (by decide) ?_
                    refine lv_iload hx hb dL_drive_352 (lv_at hl 4 rfl) ?_
                    refine lv_iadd hx hb dL_drive_354 ?_
                    obtain ⟨g13, h⟩ := q_g h
                    refine r_iald C hW 2 0 rfl rfl g13 dL_drive_355 ?_
                    exact J356 (v77.2 (16 + w16).toNatClampNeg) h _ _ hW _ (lv_sub hl [3, 4] rfl)
                  · replace h := q_f e12 h
                    refine lv_aload hx hb dL_drive_340 (lv_at hl 3 rfl) ?_
                    refine lv_iload hx hb dL_drive_342 (lv_at hl 4 rfl) ?_
                    obtain ⟨g14, h⟩ := q_g h
                    refine r_iald C hW 2 0 rfl rfl g14 dL_drive_344 ?_
                    refine lv_goto (tgt := 356) hx hb dL_drive_345 (by decide) ?_
                    exact J356 (v77.2 (w16).toNatClampNeg) h _ _ hW _ (lv_sub hl [3, 4] rfl)
                · replace h := q_f e5 h
                  refine lv_iconst (v := 0) hx hb dL_drive_82 (by decide) ?_
                  refine lv_istore (lv' := [(6, .int 0), (0, .ref (A b)), (1, .ref (A2 b2)), (2, .int p1), (4, .ref (A3 0)), (5, .int w16)]) hx hb dL_drive_83 hl (by decide) rfl (fun ls hl => ?_)
                  refine lv_iconst (v := 0) hx hb dL_drive_85 (by decide) ?_
                  refine lv_istore (lv' := [(7, .int 0), (6, .int 0), (0, .ref (A b)), (1, .ref (A2 b2)), (2, .int p1), (4, .ref (A3 0)), (5, .int w16)]) hx hb dL_drive_86 hl (by decide) rfl (fun ls hl => ?_)
                  have L88 : ∀ n88 : Nat, ∀ (v88 : Int32 × Int32 × TV48s), lpN (f_L_drive_l88 x y p1 (lpN (f_L_drive_l77 x y p1 w16) n77)) n88 v88 = some r → ∀ (H : Heap) (locs : List Loc), WdG g Z s.heap H locs [[(A b, .inl (gI g, 48, .inl x))], [(A2 b2, .inl (gI g, 32, .inl y))], [(A3 0, .inl (gI g, 48, .inl v88.2.2))]] → ∀ ls : Array Slot, lv_has ls 12 [(0, .ref (A b)), (1, .ref (A2 b2)), (2, .int p1), (4, .ref (A3 0)), (5, .int w16), (6, .int v88.1), (7, .int v88.2.1)] → W p l e R s m args below meth c H locs (0 + 1) (0 + 48) Q (F0 m 88 ls []) := by
                    intro n88
                    induction n88 with
                    | zero => intro v88 h; exact absurd (show none = some r from h) (fun h => by cases h)
                    | succ n88 ih88 =>
                      intro v88 h H locs hW ls hl
                      replace h : f_L_drive_l88 x y p1 (lpN (f_L_drive_l77 x y p1 w16) n77) (lpN (f_L_drive_l88 x y p1 (lpN (f_L_drive_l77 x y p1 w16) n77)) n88) v88 = some r := h
                      unfold f_L_drive_l88 at h
                      refine lv_iload hx hb dL_drive_88 (lv_at hl 6 rfl) ?_
                      refine lv_bipush (v := 48) hx hb dL_drive_90 (by decide) ?_
                      refine lv_icmp_ge (tgt := 321) hx hb dL_drive_92 (by decide) (fun e15 => ?_) (fun e15 => ?_)
                      · replace h := q_t e15 h
                        refine lv_goto (tgt := 77) hx hb dL_drive_321 (by decide) ?_
                        exact ih77 (v88.1, v88.2.2) h _ _ hW _ (lv_sub hl [0, 1, 2, 3, 4, 5] rfl)
                      · replace h := q_f e15 h
                        refine lv_iload hx hb dL_drive_95 (lv_at hl 6 rfl) ?_
                        refine lv_bipush (v := 16) hx hb dL_drive_97 (by decide) ?_
                        have g16 : ¬ (16 : Int32) = 0 := by decide
                        refine lv_irem hx hb dL_drive_99 g16 ?_
                        refine lv_istore (lv' := [(8, .int (v88.2.1 - v88.2.1 / 16 * 16)), (0, .ref (A b)), (1, .ref (A2 b2)), (2, .int p1), (4, .ref (A3 0)), (5, .int w16), (6, .int v88.1), (7, .int v88.2.1)]) hx hb dL_drive_100 hl (by decide) rfl (fun ls hl => ?_)
                        refine lv_iload_n hx hb dL_drive_102 rfl (lv_at hl 3 rfl) ?_
                        have J117 : ∀ (w117 : Int32), f_L_drive_j117 x y p1 (lpN (f_L_drive_l88 x y p1 (lpN (f_L_drive_l77 x y p1 w16) n77)) n88) v88 w117 = some r → ∀ (H : Heap) (locs : List Loc), WdG g Z s.heap H locs [[(A b, .inl (gI g, 48, .inl x))], [(A2 b2, .inl (gI g, 32, .inl y))], [(A3 0, .inl (gI g, 48, .inl v88.2.2))]] → ∀ ls : Array Slot, lv_has ls 12 [(0, .ref (A b)), (1, .ref (A2 b2)), (2, .int p1), (4, .ref (A3 0)), (5, .int w16), (6, .int v88.1), (7, .int v88.2.1), (8, .int (v88.2.1 - v88.2.1 / 16 * 16))] → W p l e R s m args below meth c H locs (0 + 1) (0 + 48) Q (F0 m 117 ls [.int w117]) := by
                          intro w117 h H locs hW ls hl
                          unfold f_L_drive_j117 at h
                          refine lv_istore (lv' := [(9, .int w117), (0, .ref (A b)), (1, .ref (A2 b2)), (2, .int p1), (4, .ref (A3 0)), (5, .int w16), (6, .int v88.1), (7, .int v88.2.1), (8, .int (v88.2.1 - v88.2.1 / 16 * 16))]) hx hb dL_drive_117 hl (by decide) rfl (fun ls hl => ?_)
                          refine lv_aload hx hb dL_drive_119 (lv_at hl 4 rfl) ?_
                          refine lv_iload hx hb dL_drive_121 (lv_at hl 7 rfl) ?_
                          obtain ⟨g17, h⟩ := q_g h
                          refine r_iald C hW 2 0 rfl rfl g17 dL_drive_123 ?_
                          refine lv_bipush (v := 99) hx hb dL_drive_124 (by decide) ?_
                          have J194 : ∀ (w194 : Int32 × TV48s), f_L_drive_j194 x y p1 (lpN (f_L_drive_l88 x y p1 (lpN (f_L_drive_l77 x y p1 w16) n77)) n88) v88 w194 = some r → ∀ (H : Heap) (locs : List Loc), WdG g Z s.heap H locs [[(A b, .inl (gI g, 48, .inl x))], [(A2 b2, .inl (gI g, 32, .inl y))], [(A3 0, .inl (gI g, 48, .inl w194.2))]] → ∀ ls : Array Slot, lv_has ls 12 [(0, .ref (A b)), (1, .ref (A2 b2)), (2, .int p1), (4, .ref (A3 0)), (5, .int w16), (6, .int w194.1), (7, .int v88.2.1), (8, .int (v88.2.1 - v88.2.1 / 16 * 16))] → W p l e R s m args below meth c H locs (0 + 1) (0 + 48) Q (F0 m 194 ls []) := by
                            intro w194 h H locs hW ls hl
                            unfold f_L_drive_j194 at h
                            refine lv_iconst (v := 0) hx hb dL_drive_194 (by decide) ?_
                            refine lv_istore (lv' := [(10, .int 0), (0, .ref (A b)), (1, .ref (A2 b2)), (2, .int p1), (4, .ref (A3 0)), (5, .int w16), (6, .int w194.1), (7, .int v88.2.1), (8, .int (v88.2.1 - v88.2.1 / 16 * 16))]) hx hb dL_drive_195 hl (by decide) rfl (fun ls hl => ?_)
                            have L197 : ∀ n197 : Nat, ∀ (v197 : Int32 × Int32 × TV48s), lpN (f_L_drive_l197 x y p1 (lpN (f_L_drive_l88 x y p1 (lpN (f_L_drive_l77 x y p1 w16) n77)) n88) v88) n197 v197 = some r → ∀ (H : Heap) (locs : List Loc), WdG g Z s.heap H locs [[(A b, .inl (gI g, 48, .inl x))], [(A2 b2, .inl (gI g, 32, .inl y))], [(A3 0, .inl (gI g, 48, .inl v197.2.2))]] → ∀ ls : Array Slot, lv_has ls 12 [(0, .ref (A b)), (1, .ref (A2 b2)), (2, .int p1), (4, .ref (A3 0)), (5, .int w16), (6, .int v197.1), (7, .int v88.2.1), (8, .int (v88.2.1 - v88.2.1 / 16 * 16)), (10, .int v197.2.1)] → W p l e R s m args below meth c H locs (0 + 1) (0 + 48) Q (F0 m 197 ls []) := by
                              intro n197
                              induction n197 with
                              | zero => intro v197 h; exact absurd (show none = some r from h) (fun h => by cases h)
                              | succ n197 ih197 =>
                                intro v197 h H locs hW ls hl
                                replace h : f_L_drive_l197 x y p1 (lpN (f_L_drive_l88 x y p1 (lpN (f_L_drive_l77 x y p1 w16) n77)) n88) v88 (lpN (f_L_drive_l197 x y p1 (lpN (f_L_drive_l88 x y p1 (lpN (f_L_drive_l77 x y p1 w16) n77)) n88) v88) n197) v197 = some r := h
                                unfold f_L_drive_l197 at h
                                refine lv_iload hx hb dL_drive_197 (lv_at hl 8 rfl) ?_
                                refine lv_iconst (v := 3) hx hb dL_drive_199 (by decide) ?_
                                refine lv_icmp_ge (tgt := 315) hx hb dL_drive_200 (by decide) (fun e18 => ?_) (fun e18 => ?_)
                                · replace h := q_t e18 h
                                  refine lv_iinc (v := (v88.2.1 + 1)) (lv' := [(7, .int (v88.2.1 + 1)), (0, .ref (A b)), (1, .ref (A2 b2)), (2, .int p1), (4, .ref (A3 0)), (5, .int w16), (6, .int v197.1), (8, .int (v88.2.1 - v88.2.1 / 16 * 16)), (10, .int v197.2.1)]) hx hb dL_drive_315 hl (k := 6) rfl rfl (by decide) rfl (fun ls hl => ?_)
                                  refine lv_goto (tgt := 88) hx hb dL_drive_318 (by decide) ?_
                                  exact ih88 (v197.1, (v88.2.1 + 1), v197.2.2) h _ _ hW _ (lv_sub hl [1, 2, 3, 4, 5, 6, 0] rfl)
                                · replace h := q_f e18 h
                                  refine lv_iload hx hb dL_drive_203 (lv_at hl 8 rfl) ?_
                                  refine lv_iload hx hb dL_drive_205 (lv_at hl 6 rfl) ?_
                                  refine lv_bipush (v := 16) hx hb dL_drive_207 (by decide) ?_
                                  have g19 : ¬ (16 : Int32) = 0 := by decide
                                  refine lv_idiv hx hb dL_drive_209 g19 ?_
                                  refine lv_isub hx hb dL_drive_210 ?_
                                  refine lv_iconst (v := 1) hx hb dL_drive_211 (by decide) ?_
                                  have J232 : ∀ (w232 : Int32), f_L_drive_j232 x y p1 v88 (lpN (f_L_drive_l197 x y p1 (lpN (f_L_drive_l88 x y p1 (lpN (f_L_drive_l77 x y p1 w16) n77)) n88) v88) n197) v197 w232 = some r → ∀ (H : Heap) (locs : List Loc), WdG g Z s.heap H locs [[(A b, .inl (gI g, 48, .inl x))], [(A2 b2, .inl (gI g, 32, .inl y))], [(A3 0, .inl (gI g, 48, .inl v197.2.2))]] → ∀ ls : Array Slot, lv_has ls 12 [(0, .ref (A b)), (1, .ref (A2 b2)), (2, .int p1), (4, .ref (A3 0)), (5, .int w16), (6, .int v197.1), (7, .int v88.2.1), (8, .int (v88.2.1 - v88.2.1 / 16 * 16)), (10, .int v197.2.1)] → W p l e R s m args below meth c H locs (0 + 1) (0 + 48) Q (F0 m 232 ls [.int w232]) := by
                                    intro w232 h H locs hW ls hl
                                    unfold f_L_drive_j232 at h
                                    refine lv_istore (lv' := [(11, .int w232), (0, .ref (A b)), (1, .ref (A2 b2)), (2, .int p1), (4, .ref (A3 0)), (5, .int w16), (6, .int v197.1), (7, .int v88.2.1), (8, .int (v88.2.1 - v88.2.1 / 16 * 16)), (10, .int v197.2.1)]) hx hb dL_drive_232 hl (by decide) rfl (fun ls hl => ?_)
                                    refine lv_iload hx hb dL_drive_234 (lv_at hl 0 rfl) ?_
                                    refine lv_if_eq (tgt := 309) hx hb dL_drive_236 (by decide) (fun e20 => ?_) (fun e20 => ?_)
                                    · replace h := q_t e20 h
                                      refine lv_iinc (v := (v197.2.1 + 1)) (lv' := [(10, .int (v197.2.1 + 1)), (11, .int w232), (0, .ref (A b)), (1, .ref (A2 b2)), (2, .int p1), (4, .ref (A3 0)), (5, .int w16), (6, .int v197.1), (7, .int v88.2.1), (8, .int (v88.2.1 - v88.2.1 / 16 * 16))]) hx hb dL_drive_309 hl (k := 9) rfl rfl (by decide) rfl (fun ls hl => ?_)
                                      refine lv_goto (tgt := 197) hx hb dL_drive_312 (by decide) ?_
                                      exact ih197 (v197.1, (v197.2.1 + 1), v197.2.2) h _ _ hW _ (lv_sub hl [2, 3, 4, 5, 6, 7, 8, 9, 0] rfl)
                                    · replace h := q_f e20 h
                                      refine lv_aload hx hb dL_drive_239 (lv_at hl 4 rfl) ?_
                                      refine lv_iload hx hb dL_drive_241 (lv_at hl 7 rfl) ?_
                                      obtain ⟨g21, h⟩ := q_g h
                                      refine r_iald C hW 2 0 rfl rfl g21 dL_drive_243 ?_
                                      refine lv_bipush (v := 99) hx hb dL_drive_244 (by decide) ?_
                                      refine lv_icmp_ge (tgt := 309) hx hb dL_drive_246 (by decide) (fun e22 => ?_) (fun e22 => ?_)
                                      · replace h := q_t e22 h
                                        refine lv_iinc (v := (v197.2.1 + 1)) (lv' := [(10, .int (v197.2.1 + 1)), (11, .int w232), (0, .ref (A b)), (1, .ref (A2 b2)), (2, .int p1), (4, .ref (A3 0)), (5, .int w16), (6, .int v197.1), (7, .int v88.2.1), (8, .int (v88.2.1 - v88.2.1 / 16 * 16))]) hx hb dL_drive_309 hl (k := 9) rfl rfl (by decide) rfl (fun ls hl => ?_)
                                        refine lv_goto (tgt := 197) hx hb dL_drive_312 (by decide) ?_
                                        exact ih197 (v197.1, (v197.2.1 + 1), v197.2.2) h _ _ hW _ (lv_sub hl [2, 3, 4, 5, 6, 7, 8, 9, 0] rfl)
                                      · replace h := q_f e22 h
                                        refine lv_aload_n hx hb dL_drive_249 rfl (lv_at hl 1 rfl) ?_
                                        refine lv_aload_n hx hb dL_drive_250 rfl (lv_at hl 2 rfl) ?_
                                        refine lv_iload hx hb dL_drive_251 (lv_at hl 7 rfl) ?_
                                        refine lv_bipush (v := 16) hx hb dL_drive_253 (by decide) ?_
                                        have g23 : ¬ (16 : Int32) = 0 := by decide
                                        refine lv_idiv hx hb dL_drive_255 g23 ?_
                                        refine lv_iload hx hb dL_drive_256 (lv_at hl 9 rfl) ?_
                                        refine lv_iload hx hb dL_drive_258 (lv_at hl 8 rfl) ?_
                                        refine lv_iload_n hx hb dL_drive_260 rfl (lv_at hl 3 rfl) ?_
                                        obtain ⟨t24, h25, h⟩ := q_b h
                                        refine r_cSi C hW (nA := 6) (As := [.ref (A b), .ref (A2 b2), .int (v88.2.1 / 16), .int v197.2.1, .int (v88.2.1 - v88.2.1 / 16 * 16), .int p1]) (rest := []) (c_L_change l g A b A2 b2 x y (v88.2.1 / 16) v197.2.1 (v88.2.1 - v88.2.1 / 16 * 16) p1 _ h25) gL_drive_L_change rfl wo_L_change (rmk hR rfl rfl) rfl rfl hl.1 (Nat.le_of_ble_eq_true rfl) ⟨by rw [hz.1]; omega, by rw [hz.2]; omega⟩ dL_drive_261 (n := 3) (is := [0, 1]) (rs := [2]) (bs' := [[(A b, .inl (gI g, 48, .inl x))], [(A2 b2, .inl (gI g, 32, .inl y))], [(A3 0, .inl (gI g, 48, .inl v197.2.2))]]) rfl rfl pm_4f4f9a52 rfl rfl rfl (fun H locs hW => ?_)
                                        refine lv_if_eq (tgt := 309) hx hb dL_drive_264 (by decide) (fun e26 => ?_) (fun e26 => ?_)
                                        · replace h := q_t e26 h
                                          refine lv_iinc (v := (v197.2.1 + 1)) (lv' := [(10, .int (v197.2.1 + 1)), (11, .int w232), (0, .ref (A b)), (1, .ref (A2 b2)), (2, .int p1), (4, .ref (A3 0)), (5, .int w16), (6, .int v197.1), (7, .int v88.2.1), (8, .int (v88.2.1 - v88.2.1 / 16 * 16))]) hx hb dL_drive_309 hl (k := 9) rfl rfl (by decide) rfl (fun ls hl => ?_)
                                          refine lv_goto (tgt := 197) hx hb dL_drive_312 (by decide) ?_
                                          exact ih197 (v197.1, (v197.2.1 + 1), v197.2.2) h _ _ hW _ (lv_sub hl [2, 3, 4, 5, 6, 7, 8, 9, 0] rfl)
                                        · replace h := q_f e26 h
                                          refine lv_aload hx hb dL_drive_267 (lv_at hl 4 rfl) ?_
                                          refine lv_iload hx hb dL_drive_269 (lv_at hl 7 rfl) ?_
                                          obtain ⟨g27, h⟩ := q_g h
                                          refine r_iald C hW 2 0 rfl rfl g27 dL_drive_271 ?_
                                          refine lv_iconst (v := 1) hx hb dL_drive_272 (by decide) ?_
                                          refine lv_iadd hx hb dL_drive_273 ?_
                                          refine lv_aload hx hb dL_drive_274 (lv_at hl 4 rfl) ?_
                                          refine lv_bipush (v := 16) hx hb dL_drive_276 (by decide) ?_
                                          refine lv_iload hx hb dL_drive_278 (lv_at hl 9 rfl) ?_
                                          refine lv_imul hx hb dL_drive_280 ?_
                                          refine lv_iload hx hb dL_drive_281 (lv_at hl 8 rfl) ?_
                                          refine lv_iadd hx hb dL_drive_283 ?_
                                          obtain ⟨g28, h⟩ := q_g h
                                          refine r_iald C hW 2 0 rfl rfl g28 dL_drive_284 ?_
                                          refine lv_icmp_ge (tgt := 309) hx hb dL_drive_285 (by decide) (fun e29 => ?_) (fun e29 => ?_)
                                          · replace h := q_t e29 h
                                            refine lv_iinc (v := (v197.2.1 + 1)) (lv' := [(10, .int (v197.2.1 + 1)), (11, .int w232), (0, .ref (A b)), (1, .ref (A2 b2)), (2, .int p1), (4, .ref (A3 0)), (5, .int w16), (6, .int v197.1), (7, .int v88.2.1), (8, .int (v88.2.1 - v88.2.1 / 16 * 16))]) hx hb dL_drive_309 hl (k := 9) rfl rfl (by decide) rfl (fun ls hl => ?_)
                                            refine lv_goto (tgt := 197) hx hb dL_drive_312 (by decide) ?_
                                            exact ih197 (v197.1, (v197.2.1 + 1), v197.2.2) h _ _ hW _ (lv_sub hl [2, 3, 4, 5, 6, 7, 8, 9, 0] rfl)
                                          · replace h := q_f e29 h
                                            refine lv_aload hx hb dL_drive_288 (lv_at hl 4 rfl) ?_
                                            refine lv_bipush (v := 16) hx hb dL_drive_290 (by decide) ?_
                                            refine lv_iload hx hb dL_drive_292 (lv_at hl 9 rfl) ?_
                                            refine lv_imul hx hb dL_drive_294 ?_
                                            refine lv_iload hx hb dL_drive_295 (lv_at hl 8 rfl) ?_
                                            refine lv_iadd hx hb dL_drive_297 ?_
                                            refine lv_aload hx hb dL_drive_298 (lv_at hl 4 rfl) ?_
                                            refine lv_iload hx hb dL_drive_300 (lv_at hl 7 rfl) ?_
                                            obtain ⟨g30, h⟩ := q_g h
                                            refine r_iald C hW 2 0 rfl rfl g30 dL_drive_302 ?_
                                            refine lv_iconst (v := 1) hx hb dL_drive_303 (by decide) ?_
                                            refine lv_iadd hx hb dL_drive_304 ?_
                                            obtain ⟨g31, h⟩ := q_g h
                                            refine r_iast C hW (bs' := [[(A b, .inl (gI g, 48, .inl x))], [(A2 b2, .inl (gI g, 32, .inl y))], [(A3 0, .inl (gI g, 48, .inl (upd v197.2.2 ((16 * v197.2.1) + (v88.2.1 - v88.2.1 / 16 * 16)).toNatClampNeg ((v197.2.2 (v88.2.1).toNatClampNeg) + 1))))]]) 2 0 rfl rfl g31 dL_drive_305 rfl (fun H locs hW => ?_)
                                            refine lv_iconst (v := 1) hx hb dL_drive_306 (by decide) ?_
                                            refine lv_istore (lv' := [(6, .int 1), (11, .int w232), (0, .ref (A b)), (1, .ref (A2 b2)), (2, .int p1), (4, .ref (A3 0)), (5, .int w16), (7, .int v88.2.1), (8, .int (v88.2.1 - v88.2.1 / 16 * 16)), (10, .int v197.2.1)]) hx hb dL_drive_307 hl (by decide) rfl (fun ls hl => ?_)
                                            refine lv_iinc (v := (v197.2.1 + 1)) (lv' := [(10, .int (v197.2.1 + 1)), (6, .int 1), (11, .int w232), (0, .ref (A b)), (1, .ref (A2 b2)), (2, .int p1), (4, .ref (A3 0)), (5, .int w16), (7, .int v88.2.1), (8, .int (v88.2.1 - v88.2.1 / 16 * 16))]) hx hb dL_drive_309 hl (k := 9) rfl rfl (by decide) rfl (fun ls hl => ?_)
                                            refine lv_goto (tgt := 197) hx hb dL_drive_312 (by decide) ?_
                                            exact ih197 (1, (v197.2.1 + 1), (upd v197.2.2 ((16 * v197.2.1) + (v88.2.1 - v88.2.1 / 16 * 16)).toNatClampNeg ((v197.2.2 (v88.2.1).toNatClampNeg) + 1))) h _ _ hW _ (lv_sub hl [3, 4, 5, 6, 7, 1, 8, 9, 0] rfl)
                                  have J227 : ∀ (w227 : Unit), f_L_drive_j227 x y p1 v88 (lpN (f_L_drive_l197 x y p1 (lpN (f_L_drive_l88 x y p1 (lpN (f_L_drive_l77 x y p1 w16) n77)) n88) v88) n197) v197 w227 = some r → ∀ (H : Heap) (locs : List Loc), WdG g Z s.heap H locs [[(A b, .inl (gI g, 48, .inl x))], [(A2 b2, .inl (gI g, 32, .inl y))], [(A3 0, .inl (gI g, 48, .inl v197.2.2))]] → ∀ ls : Array Slot, lv_has ls 12 [(0, .ref (A b)), (1, .ref (A2 b2)), (2, .int p1), (4, .ref (A3 0)), (5, .int w16), (6, .int v197.1), (7, .int v88.2.1), (8, .int (v88.2.1 - v88.2.1 / 16 * 16)), (10, .int v197.2.1)] → W p l e R s m args below meth c H locs (0 + 1) (0 + 48) Q (F0 m 227 ls []) := by
                                    intro w227 h H locs hW ls hl
                                    unfold f_L_drive_j227 at h
                                    refine lv_iconst (v := 1) hx hb dL_drive_227 (by decide) ?_
                                    refine lv_goto (tgt := 232) hx hb dL_drive_228 (by decide) ?_
                                    exact J232 1 h _ _ hW _ (lv_sub hl [0, 1, 2, 3, 4, 5, 6, 7, 8] rfl)
                                  refine lv_icmp_eq (tgt := 227) hx hb dL_drive_212 (by decide) (fun e32 => ?_) (fun e32 => ?_)
                                  · replace h := q_t e32 h
                                    exact J227 () h _ _ hW _ (lv_sub hl [0, 1, 2, 3, 4, 5, 6, 7, 8] rfl)
                                  · replace h := q_f e32 h
                                    refine lv_iload hx hb dL_drive_215 (lv_at hl 8 rfl) ?_
                                    refine lv_iload hx hb dL_drive_217 (lv_at hl 6 rfl) ?_
                                    refine lv_bipush (v := 16) hx hb dL_drive_219 (by decide) ?_
                                    have g33 : ¬ (16 : Int32) = 0 := by decide
                                    refine lv_idiv hx hb dL_drive_221 g33 ?_
                                    refine lv_isub hx hb dL_drive_222 ?_
                                    refine lv_iconst (v := (-1)) hx hb dL_drive_223 (by decide) ?_
                                    refine lv_icmp_ne (tgt := 231) hx hb dL_drive_224 (by decide) (fun e34 => ?_) (fun e34 => ?_)
                                    · replace h := q_f e34 h
                                      refine lv_iconst (v := 0) hx hb dL_drive_231 (by decide) ?_
                                      exact J232 0 h _ _ hW _ (lv_sub hl [0, 1, 2, 3, 4, 5, 6, 7, 8] rfl)
                                    · replace h := q_t e34 h
                                      exact J227 () h _ _ hW _ (lv_sub hl [0, 1, 2, 3, 4, 5, 6, 7, 8] rfl)
                            exact L197 3000 (w194.1, 0, w194.2) h _ _ hW _ (lv_sub hl [1, 2, 3, 4, 5, 6, 7, 8, 0] rfl)
                          refine lv_icmp_ge (tgt := 194) hx hb dL_drive_126 (by decide) (fun e35 => ?_) (fun e35 => ?_)
                          · replace h := q_t e35 h
                            exact J194 (v88.1, v88.2.2) h _ _ hW _ (lv_sub hl [1, 2, 3, 4, 5, 6, 7, 8] rfl)
                          · replace h := q_f e35 h
                            refine lv_iload hx hb dL_drive_129 (lv_at hl 0 rfl) ?_
                            refine lv_if_lt (tgt := 194) hx hb dL_drive_131 (by decide) (fun e36 => ?_) (fun e36 => ?_)
                            · replace h := q_t e36 h
                              exact J194 (v88.1, v88.2.2) h _ _ hW _ (lv_sub hl [1, 2, 3, 4, 5, 6, 7, 8] rfl)
                            · replace h := q_f e36 h
                              refine lv_iload hx hb dL_drive_134 (lv_at hl 0 rfl) ?_
                              refine lv_bipush (v := 16) hx hb dL_drive_136 (by decide) ?_
                              refine lv_icmp_ge (tgt := 194) hx hb dL_drive_138 (by decide) (fun e37 => ?_) (fun e37 => ?_)
                              · replace h := q_t e37 h
                                exact J194 (v88.1, v88.2.2) h _ _ hW _ (lv_sub hl [1, 2, 3, 4, 5, 6, 7, 8] rfl)
                              · replace h := q_f e37 h
                                refine lv_aload_n hx hb dL_drive_141 rfl (lv_at hl 1 rfl) ?_
                                refine lv_iload hx hb dL_drive_142 (lv_at hl 7 rfl) ?_
                                refine lv_bipush (v := 16) hx hb dL_drive_144 (by decide) ?_
                                have g38 : ¬ (16 : Int32) = 0 := by decide
                                refine lv_idiv hx hb dL_drive_146 g38 ?_
                                refine lv_iload hx hb dL_drive_147 (lv_at hl 0 rfl) ?_
                                refine lv_iload_n hx hb dL_drive_149 rfl (lv_at hl 3 rfl) ?_
                                obtain ⟨t39, h40, h⟩ := q_b h
                                refine r_cSi C hW (nA := 4) (As := [.ref (A b), .int (v88.2.1 / 16), .int w117, .int p1]) (rest := []) (c_L_free l g A b x (v88.2.1 / 16) w117 p1 _ h40) gL_drive_L_free rfl wo_L_free (rmk hR rfl rfl) rfl rfl hl.1 (Nat.le_of_ble_eq_true rfl) ⟨by rw [hz.1]; omega, by rw [hz.2]; omega⟩ dL_drive_150 (n := 3) (is := [0]) (rs := [1, 2]) (bs' := [[(A b, .inl (gI g, 48, .inl x))], [(A2 b2, .inl (gI g, 32, .inl y))], [(A3 0, .inl (gI g, 48, .inl v88.2.2))]]) rfl rfl pm_6661b00d rfl rfl rfl (fun H locs hW => ?_)
                                refine lv_if_eq (tgt := 194) hx hb dL_drive_153 (by decide) (fun e41 => ?_) (fun e41 => ?_)
                                · replace h := q_t e41 h
                                  exact J194 (v88.1, v88.2.2) h _ _ hW _ (lv_sub hl [1, 2, 3, 4, 5, 6, 7, 8] rfl)
                                · replace h := q_f e41 h
                                  refine lv_aload hx hb dL_drive_156 (lv_at hl 4 rfl) ?_
                                  refine lv_iload hx hb dL_drive_158 (lv_at hl 7 rfl) ?_
                                  obtain ⟨g42, h⟩ := q_g h
                                  refine r_iald C hW 2 0 rfl rfl g42 dL_drive_160 ?_
                                  refine lv_aload hx hb dL_drive_161 (lv_at hl 4 rfl) ?_
                                  refine lv_iload hx hb dL_drive_163 (lv_at hl 7 rfl) ?_
                                  refine lv_iload hx hb dL_drive_165 (lv_at hl 8 rfl) ?_
                                  refine lv_isub hx hb dL_drive_167 ?_
                                  refine lv_iload hx hb dL_drive_168 (lv_at hl 0 rfl) ?_
                                  refine lv_iadd hx hb dL_drive_170 ?_
                                  obtain ⟨g43, h⟩ := q_g h
                                  refine r_iald C hW 2 0 rfl rfl g43 dL_drive_171 ?_
                                  refine lv_icmp_ge (tgt := 194) hx hb dL_drive_172 (by decide) (fun e44 => ?_) (fun e44 => ?_)
                                  · replace h := q_t e44 h
                                    exact J194 (v88.1, v88.2.2) h _ _ hW _ (lv_sub hl [1, 2, 3, 4, 5, 6, 7, 8] rfl)
                                  · replace h := q_f e44 h
                                    refine lv_aload hx hb dL_drive_175 (lv_at hl 4 rfl) ?_
                                    refine lv_iload hx hb dL_drive_177 (lv_at hl 7 rfl) ?_
                                    refine lv_iload hx hb dL_drive_179 (lv_at hl 8 rfl) ?_
                                    refine lv_isub hx hb dL_drive_181 ?_
                                    refine lv_iload hx hb dL_drive_182 (lv_at hl 0 rfl) ?_
                                    refine lv_iadd hx hb dL_drive_184 ?_
                                    refine lv_aload hx hb dL_drive_185 (lv_at hl 4 rfl) ?_
                                    refine lv_iload hx hb dL_drive_187 (lv_at hl 7 rfl) ?_
                                    obtain ⟨g45, h⟩ := q_g h
                                    refine r_iald C hW 2 0 rfl rfl g45 dL_drive_189 ?_
                                    obtain ⟨g46, h⟩ := q_g h
                                    refine r_iast C hW (bs' := [[(A b, .inl (gI g, 48, .inl x))], [(A2 b2, .inl (gI g, 32, .inl y))], [(A3 0, .inl (gI g, 48, .inl (upd v88.2.2 ((v88.2.1 - (v88.2.1 - v88.2.1 / 16 * 16)) + w117).toNatClampNeg (v88.2.2 (v88.2.1).toNatClampNeg))))]]) 2 0 rfl rfl g46 dL_drive_190 rfl (fun H locs hW => ?_)
                                    refine lv_iconst (v := 1) hx hb dL_drive_191 (by decide) ?_
                                    refine lv_istore (lv' := [(6, .int 1), (9, .int w117), (0, .ref (A b)), (1, .ref (A2 b2)), (2, .int p1), (4, .ref (A3 0)), (5, .int w16), (7, .int v88.2.1), (8, .int (v88.2.1 - v88.2.1 / 16 * 16))]) hx hb dL_drive_192 hl (by decide) rfl (fun ls hl => ?_)
                                    exact J194 (1, (upd v88.2.2 ((v88.2.1 - (v88.2.1 - v88.2.1 / 16 * 16)) + w117).toNatClampNeg (v88.2.2 (v88.2.1).toNatClampNeg))) h _ _ hW _ (lv_sub hl [2, 3, 4, 5, 6, 0, 7, 8] rfl)
                        refine lv_if_ne (tgt := 113) hx hb dL_drive_103 (by decide) (fun e47 => ?_) (fun e47 => ?_)
                        · replace h := q_f e47 h
                          refine lv_iload hx hb dL_drive_113 (lv_at hl 0 rfl) ?_
                          refine lv_iconst (v := 1) hx hb dL_drive_115 (by decide) ?_
                          refine lv_isub hx hb dL_drive_116 ?_
                          exact J117 ((v88.2.1 - v88.2.1 / 16 * 16) - 1) h _ _ hW _ (lv_sub hl [1, 2, 3, 4, 5, 6, 7, 0] rfl)
                        · replace h := q_t e47 h
                          refine lv_iload hx hb dL_drive_106 (lv_at hl 0 rfl) ?_
                          refine lv_iconst (v := 1) hx hb dL_drive_108 (by decide) ?_
                          refine lv_iadd hx hb dL_drive_109 ?_
                          refine lv_goto (tgt := 117) hx hb dL_drive_110 (by decide) ?_
                          exact J117 ((v88.2.1 - v88.2.1 / 16 * 16) + 1) h _ _ hW _ (lv_sub hl [1, 2, 3, 4, 5, 6, 7, 0] rfl)
                  exact L88 3000 (0, 0, v77.2) h _ _ hW _ (lv_sub hl [2, 3, 4, 5, 6, 1, 0] rfl)
            exact L77 6000 (1, (upd v21.2 (((16 * p2) + 15) - w16).toNatClampNeg w73)) h _ _ hW _ (lv_sub hl [1, 2, 3, 4, 5, 0] rfl)
          refine lv_if_eq (tgt := 71) hx hb dL_drive_64 (by decide) (fun e48 => ?_) (fun e48 => ?_)
          · replace h := q_t e48 h
            refine lv_bipush (v := 99) hx hb dL_drive_71 (by decide) ?_
            exact J73 99 h _ _ hW _ (lv_sub hl [0, 1, 2, 4, 5] rfl)
          · replace h := q_f e48 h
            refine lv_iconst (v := 0) hx hb dL_drive_67 (by decide) ?_
            refine lv_goto (tgt := 73) hx hb dL_drive_68 (by decide) ?_
            exact J73 0 h _ _ hW _ (lv_sub hl [0, 1, 2, 4, 5] rfl)
        · replace h := q_f e1 h
          refine lv_aload hx hb dL_drive_28 (lv_at hl 4 rfl) ?_
          refine lv_iload hx hb dL_drive_30 (lv_at hl 6 rfl) ?_
          refine lv_bipush (v := 99) hx hb dL_drive_32 (by decide) ?_
          obtain ⟨g49, h⟩ := q_g h
          refine r_iast C hW (bs' := [[(A b, .inl (gI g, 48, .inl x))], [(A2 b2, .inl (gI g, 32, .inl y))], [(A3 0, .inl (gI g, 48, .inl (upd v21.2 (v21.1).toNatClampNeg 99)))]]) 2 0 rfl rfl g49 dL_drive_34 rfl (fun H locs hW => ?_)
          refine lv_iinc (v := (v21.1 + 1)) (lv' := [(6, .int (v21.1 + 1)), (0, .ref (A b)), (1, .ref (A2 b2)), (2, .int p1), (3, .int p2), (4, .ref (A3 0)), (5, .int w16)]) hx hb dL_drive_35 hl (k := 6) rfl rfl (by decide) rfl (fun ls hl => ?_)
          refine lv_goto (tgt := 21) hx hb dL_drive_38 (by decide) ?_
          exact ih21 ((v21.1 + 1), (upd v21.2 (v21.1).toNatClampNeg 99)) h _ _ hW _ (lv_sub hl [1, 2, 3, 4, 5, 6, 0] rfl)
    exact L21 3000 (0, (fun _ => 0)) h _ _ hW _ (lv_sub hl [2, 3, 4, 5, 6, 1, 0] rfl)
  refine lv_if_ne (tgt := 15) hx hb dL_drive_7 (by decide) (fun e50 => ?_) (fun e50 => ?_)
  · replace h := q_f e50 h
    refine lv_iconst (v := 0) hx hb dL_drive_15 (by decide) ?_
    exact J16 0 h _ _ hW _ (lv_sub hl [1, 2, 3, 4, 0] rfl)
  · replace h := q_t e50 h
    refine lv_bipush (v := 15) hx hb dL_drive_10 (by decide) ?_
    refine lv_goto (tgt := 16) hx hb dL_drive_12 (by decide) ?_
    exact J16 15 h _ _ hW _ (lv_sub hl [1, 2, 3, 4, 0] rfl)
