/-! the states of the classes, their cells -/
abbrev TX4s : Type := Nat × Int32 × (Nat → Int32) × (Nat → Int32)
/-- the cells of a RoadPaint$Signs -/
def wX4 (g : GG) (A : Nat → Nat) (b : Nat) (s : TX4s) : va_W := [(A b, .inr (4, [.int s.2.1, .ref (A (b + 1)), .ref (A (b + 2))]))] ++ ([(A (b + 1), .inl (gI g, s.1, .inl s.2.2.1))] ++ ([(A (b + 2), .inl (gI g, s.1, .inl s.2.2.2))]))
abbrev TX3s : Type := TX4s × TX4s × TX4s × (Nat → Int32) × (Nat → Int32) × Int32 × Int32 × Int32 × Int32 × Int32
/-- the cells of a RoadPaint$Road -/
def wX3 (g : GG) (A : Nat → Nat) (b : Nat) (s : TX3s) : va_W := [(A b, .inr (3, [.ref (A (b + 1)), .ref (A (b + 4)), .ref (A (b + 7)), .ref (A (b + 10)), .ref (A (b + 11)), .int s.2.2.2.2.2.1, .int s.2.2.2.2.2.2.1, .int s.2.2.2.2.2.2.2.1, .int s.2.2.2.2.2.2.2.2.1, .int s.2.2.2.2.2.2.2.2.2]))] ++ (wX4 g A (b + 1) s.1 ++ (wX4 g A (b + 4) s.2.1 ++ (wX4 g A (b + 7) s.2.2.1 ++ ([(A (b + 10), .inl (gI g, 3, .inl s.2.2.2.1))] ++ ([(A (b + 11), .inl (gI g, 2, .inl s.2.2.2.2.1))])))))
abbrev TX1s : Type := (Nat → TX3s) × Int32 × Int32
/-- the cells of a RoadPaint$History -/
def wX1 (g : GG) (A : Nat → Nat) (b : Nat) (s : TX1s) : va_W := [(A b, .inr (1, [.ref (A (b + 1)), .int s.2.1, .int s.2.2]))] ++ ([(A (b + 1), .inl (gR g, 5, .inr (.inr (.inr (.inr (fun k => some (A (b + 2 + 12 * k))))))))] ++ (wX3 g A (b + 2) (s.1 0) ++ (wX3 g A (b + 14) (s.1 1) ++ (wX3 g A (b + 26) (s.1 2) ++ (wX3 g A (b + 38) (s.1 3) ++ (wX3 g A (b + 50) (s.1 4)))))))
abbrev TX2s : Type := (Nat → Int32) × Int32
/-- the cells of a RoadPaint$Orders -/
def wX2 (g : GG) (A : Nat → Nat) (b : Nat) (s : TX2s) : va_W := [(A b, .inr (2, [.ref (A (b + 1)), .int s.2]))] ++ ([(A (b + 1), .inl (gC g, 70, .inl s.1))])
abbrev TX0s : Type := (Nat → Int32)
/-- the cells of a RoadPaint$Driver -/
def wX0 (g : GG) (A : Nat → Nat) (b : Nat) (s : TX0s) : va_W := [(A b, .inr (0, [.ref (A (b + 1))]))] ++ ([(A (b + 1), .inl (gI g, 3, .inl s))])
abbrev TX5s : Type := TX3s × TX3s × Int32 × TX1s × TX2s × TX0s
/-- the cells of a RoadPaint -/
def wX5 (g : GG) (A : Nat → Nat) (b : Nat) (s : TX5s) : va_W := [(A b, .inr (5, [.ref (A (b + 1)), .ref (A (b + 13)), .int s.2.2.1, .ref (A (b + 25)), .ref (A (b + 87)), .ref (A (b + 89))]))] ++ (wX3 g A (b + 1) s.1 ++ (wX3 g A (b + 13) s.2.1 ++ (wX1 g A (b + 25) s.2.2.2.1 ++ (wX2 g A (b + 87) s.2.2.2.2.1 ++ (wX0 g A (b + 89) s.2.2.2.2.2)))))
abbrev TV48s : Type := (Nat → Int32)
/-- the cells of a row of ints -/
def wV48 (g : GG) (A : Nat → Nat) (b : Nat) (s : TV48s) : va_W := [(A b, .inl (gI g, 48, .inl s))]
abbrev TV32s : Type := (Nat → Int32)
/-- the cells of a row of ints -/
def wV32 (g : GG) (A : Nat → Nat) (b : Nat) (s : TV32s) : va_W := [(A b, .inl (gI g, 32, .inl s))]
abbrev TV10s : Type := (Nat → Int32)
/-- the cells of a row of ints -/
def wV10 (g : GG) (A : Nat → Nat) (b : Nat) (s : TV10s) : va_W := [(A b, .inl (gI g, 10, .inl s))]
def updR (f : Nat → TX3s) (k : Nat) (v : TX3s) : Nat → TX3s := fun j => if j = k then v else f j
