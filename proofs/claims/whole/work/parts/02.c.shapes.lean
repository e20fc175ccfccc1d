/-! the states of the classes, their cells -/
abbrev TX4s : Type := Nat × Int32 × (Nat → Int32) × (Nat → Int32)
/-- the cells of a RoadPaint$Signs -/
def wX4 (g : GG) (A : Nat → Nat) (b : Nat) (s : TX4s) : va_W := [(A b, .inr (4, [.int s.2.1, .ref (A (b + 1)), .ref (A (b + 2))]))] ++ ([(A (b + 1), .inl (gI g, s.1, .inl s.2.2.1))] ++ ([(A (b + 2), .inl (gI g, s.1, .inl s.2.2.2))]))
abbrev TX3s : Type := TX4s × TX4s × TX4s × (Nat → Int32) × (Nat → Int32) × Int32 × Int32 × Int32 × Int32 × Int32
/-- the cells of a RoadPaint$Road -/
def wX3 (g : GG) (A : Nat → Nat) (b : Nat) (s : TX3s) : va_W := [(A b, .inr (3, [.ref (A (b + 1)), .ref (A (b + 4)), .ref (A (b + 7)), .ref (A (b + 10)), .ref (A (b + 11)), .int s.2.2.2.2.2.1, .int s.2.2.2.2.2.2.1, .int s.2.2.2.2.2.2.2.1, .int s.2.2.2.2.2.2.2.2.1, .int s.2.2.2.2.2.2.2.2.2]))] ++ (wX4 g A (b + 1) s.1 ++ (wX4 g A (b + 4) s.2.1 ++ (wX4 g A (b + 7) s.2.2.1 ++ ([(A (b + 10), .inl (gI g, 3, .inl s.2.2.2.1))] ++ ([(A (b + 11), .inl (gI g, 2, .inl s.2.2.2.2.1))])))))
abbrev TX1s : Type := (Nat → TX3s) × Int32 × Int32
/-- the cells of a RoadPaint$History -/
def wX1 (g : GG) (A : Nat → Nat) (b : Nat) (s : TX1s) : va_W := [(A b, .inr (1, [.ref (A (b + 1)), .int s.2.1, .int s.2.2]))] ++ ([(A (b + 1), .inl (gR g, 5, .inr (.inr (.inr (.inr (fun k => some (A (b + 2 + 12 * k))))))))] ++ (wX3 g A (b + 2) (s.1 0) ++ (wX3 g A (b + 14) (s.1 1) ++ (wX3 g A (b + 26) (s.1 2) ++ (wX3 g A (b + 38) (s.1 3) ++ (wX3 g A (b + 50) (s.1 4)))))))
abbrev TX2s : Type := (Nat → Int32) × Int32
/-- the cells of a RoadPaint$Orders -/
def wX2 (g : GG) (A : Nat → Nat) (b : Nat) (s : TX2s) : va_W := [(A b, .inr (2, [.ref (A (b + 1)), .int s.2]))] ++ ([(A (b + 1), .inl (gC g, 70, .inl s.1))])
abbrev TX0s : Type := (Nat → Int32)
/-- the cells of a RoadPaint$Driver -/
def wX0 (g : GG) (A : Nat → Nat) (b : Nat) (s : TX0s) : va_W := [(A b, .inr (0, [.ref (A (b + 1))]))] ++ ([(A (b + 1), .inl (gI g, 3, .inl s))])
abbrev TX5s : Type := TX3s × TX3s × Int32 × TX1s × TX2s × TX0s
/-- the cells of a RoadPaint -/
def wX5 (g : GG) (A : Nat → Nat) (b : Nat) (s : TX5s) : va_W := [(A b, .inr (5, [.ref (A (b + 1)), .ref (A (b + 13)), .int s.2.2.1, .ref (A (b + 25)), .ref (A (b + 87)), .ref (A (b + 89))]))] ++ (wX3 g A (b + 1) s.1 ++ (wX3 g A (b + 13) s.2.1 ++ (wX1 g A (b + 25) s.2.2.2.1 ++ (wX2 g A (b + 87) s.2.2.2.2.1 ++ (wX0 g A (b + 89) s.2.2.2.2.2)))))
abbrev TX6s : Type := (Nat → Int32) × (Nat → Int32) × Int32 × (Nat → Int32) × Int32 × (Nat → Int32) × Int32 × (Nat → Int32) × (Nat → Int32) × Int32 × Int32 × Int32
/-- the cells of a RoadPaintModel -/
def wX6 (g : GG) (A : Nat → Nat) (b : Nat) (s : TX6s) : va_W := [(A b, .inr (6, [.ref (A (b + 1)), .ref (A (b + 2)), .int s.2.2.1, .ref (A (b + 3)), .int s.2.2.2.2.1, .ref (A (b + 4)), .int s.2.2.2.2.2.2.1, .ref (A (b + 5)), .ref (A (b + 6)), .int s.2.2.2.2.2.2.2.2.2.1, .int s.2.2.2.2.2.2.2.2.2.2.1, .int s.2.2.2.2.2.2.2.2.2.2.2]))] ++ ([(A (b + 1), .inl (gI g, 268, .inl s.1))] ++ ([(A (b + 2), .inl (gI g, 1340, .inl s.2.1))] ++ ([(A (b + 3), .inl (gI g, 268, .inl s.2.2.2.1))] ++ ([(A (b + 4), .inl (gC g, 70, .inl s.2.2.2.2.2.1))] ++ ([(A (b + 5), .inl (gI g, 3, .inl s.2.2.2.2.2.2.2.1))] ++ ([(A (b + 6), .inl (gI g, 144, .inl s.2.2.2.2.2.2.2.2.1))]))))))
def updR (f : Nat → TX3s) (k : Nat) (v : TX3s) : Nat → TX3s := fun j => if j = k then v else f j
/-! String constants: a literal is its place in gLen, gByt -/
def f_str_length (q : Nat) : Option Int32 := if q < 8 then some (nI (gLen.getD q 0)) else none
def f_str_isEmpty (q : Nat) : Option Int32 := if q < 8 then some (if gLen.getD q 0 = 0 then 1 else 0) else none
def f_str_charAt (q : Nat) (i : Int32) : Option Int32 := if q < 8 then (if i < 0 ∨ gLen.getD q 0 ≤ i.toNatClampNeg then none else some ((gByt.getD q []).getD i.toNatClampNeg 0 &&& 255)) else none
def str_ixF (c : Int32) : List Int32 → Nat → Int32
  | [], _ => -1
  | b :: l, k => if b &&& 255 = c then nI k else str_ixF c l (k + 1)
def f_str_indexOf (q : Nat) (c : Int32) : Option Int32 := if q < 8 then some (str_ixF c (gByt.getD q []) 0) else none
theorem q_lt {α : Type} {c : Prop} [Decidable c] {X : Option α} {r : α} (h : (if c then X else none) = some r) : c ∧ X = some r := by
  by_cases hc : c
  · rw [if_pos hc] at h; exact ⟨hc, h⟩
  · rw [if_neg hc] at h; cases h
theorem f_str_length_lt {q : Nat} {r : Int32} (h : f_str_length q = some r) : q < 8 := (q_lt h).1
theorem f_str_isEmpty_lt {q : Nat} {r : Int32} (h : f_str_isEmpty q = some r) : q < 8 := (q_lt h).1
theorem f_str_charAt_lt {q : Nat} {i r : Int32} (h : f_str_charAt q i = some r) : q < 8 := (q_lt h).1
theorem f_str_indexOf_lt {q : Nat} {i r : Int32} (h : f_str_indexOf q i = some r) : q < 8 := (q_lt h).1
/-- a call of a String constant's method with an int's answer -/
theorem r_cStr {p : Program} {l : Launch} {e : Env} {R : Room} {s : State} {m : MethodId} {args : Array Value} {below : List Frame} {meth : Method} {c : Code} {H : Heap} {locs : List Loc} {cells slots : Nat} {Q : State → Prop}
    {cc : ByteArray} {nL : Nat} {own : String} {Ts : List Cond} {g : GG} {A : Nat → Prop} {bs : List va_W} {pc : Nat} {ls : Array Slot} {rest st0 : List Value} {y : MethodName} {ws' ws'' : List Cond} {bytes : ByteArray} {maxL fr lo nA index q : Nat} {ret : Option FieldType} {As : List Value} {r : Int32}
    (C : CxG p s m args c cc nL own Ts g A) (hW : WdG g A s.heap H locs bs) (hM : CI l y ws' fr lo g (.ref (gK g q) :: As) [] r []) (hG : GoodIn Ts (wsV own index RJ0 y ws')) (hw : ws' = Cond.code y bytes maxL ret :: ws'') (hd : y.cls = RJ0 ∧ wordsOk y nA) (hR : fr + 1 ≤ R.frames ∧ 8 + (maxL + 11) + lo ≤ R.locals) (hq : q < 8) (hlen : As.length = nA) (hst : st0 = As.reverse ++ .ref (gK g q) :: rest) (hsz : ls.size = nL) (hcat : (rest.map fun v => v.category).sum ≤ 8) (hcs : cells ≤ R.cells ∧ slots ≤ R.slots) (hdg : decode cc pc = .ok (.invokevirtual index, 3))
    (kk : ∀ (H1 : Heap) (locs1 : List Loc), WdG g A s.heap H1 locs1 bs → W p l e R s m args below meth c H1 locs1 cells slots Q (F0 m (pc + 3) ls (.int r :: rest))) : W p l e R s m args below meth c H locs cells slots Q (F0 m pc ls st0) := by
  have hp : (([] : List Nat) ++ List.range bs.length).Perm (List.range bs.length) := List.Perm.refl _
  have hE := C.2.1
  refine c_endi C hW rfl rfl hp rfl rfl rfl (va_runV C.1 (hM H.size) (cwV nA C.1.2.2.2.2 hG hw rfl rfl hd hR) ⟨PreC.blind, vk_recv hE.2.2.2.1 hq hW.2.2, fun U hU hw' => ⟨rfl, hW.pre hE C.2.2 rfl hp rfl hU hw'⟩⟩ rfl hlen hsz hst (lv_room hcat) hdg hcs) kk
