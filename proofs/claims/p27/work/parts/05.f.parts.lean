/-! the questions of the program -/
theorem placeError_0 {p q c : Int32} {s n : Int32} (h1 : f_X5_isPlace p s q = some 1) {N : Int32} (h2 : f_X6_in c 0 N = some 1) (hN : n - 1 = N) : f_X5_placeError p s q c n = some 0 := by
  unfold f_X5_placeError
  rw [h1, Option.bind_some, if_neg (by decide), isW, hN, h2]; rfl
theorem placeError_1 {p q c : Int32} {s n : Int32} (h1 : f_X5_isPlace p s q = some 0) : f_X5_placeError p s q c n = some (-1) := by
  unfold f_X5_placeError
  rw [h1, Option.bind_some, if_pos rfl]
theorem placeError_2 {p q c : Int32} {s n : Int32} (h1 : f_X5_isPlace p s q = some 1) {N : Int32} (h2 : f_X6_in c 0 N = some 0) (hN : n - 1 = N) : f_X5_placeError p s q c n = some (-2) := by
  unfold f_X5_placeError
  rw [h1, Option.bind_some, if_neg (by decide), isW, hN, h2]; rfl
theorem asN {p : Prop} [Decidable p] : f_X5_asNumber (if p then 0 else 1) = some (if p then 0 else 1) := by split <;> rfl
theorem asN' {p : Prop} [Decidable p] : f_X5_asNumber (if p then 1 else 0) = some (if p then 1 else 0) := by split <;> rfl
theorem if01 {p : Prop} [Decidable p] : (if (if p then (0 : Int32) else 1) = 0 then some (0 : Int32) else some 1) = some (if p then 0 else 1) := by split <;> rfl
theorem if10 {p : Prop} [Decidable p] : (if (if p then (1 : Int32) else 0) = 0 then some (0 : Int32) else some 1) = some (if p then 1 else 0) := by split <;> rfl
/-- the totals, one by one -/
theorem gcl {k n : Nat} {K : Int32} (e : K = nI k) (h : k < n) (hn : n < 2 ^ 31) : (K < 0 ∨ n ≤ k) = False := by subst e; exact g_in2 h hn
theorem clk {k : Nat} {K : Int32} (e : K = nI k) (h : k < 2 ^ 31) : K.toNatClampNeg = k := by subst e; exact nI_clamp h
theorem tot5_0 {x : TX5s} : f_X5_total x (nI 0) = ((f_X4_count x.1.1).bind fun t => some t) := by
  unfold f_X5_total
  simp only [show ¬ nI 0 < 0 by decide, show ¬ 14 < nI 0 by decide, show (nI 0 = (0 : Int32)) = True from eq_true rfl, ↓reduceIte]
theorem tot6_0 {y : TX6s} : f_X6_total y (nI 0) = ((f_X6_cellSigns y 0).bind fun t => some t) := by
  unfold f_X6_total
  simp only [show ¬ nI 0 < 0 by decide, show ¬ 14 < nI 0 by decide, show (nI 0 = (0 : Int32)) = True from eq_true rfl, ↓reduceIte]
theorem tot5_1 {x : TX5s} : f_X5_total x (nI 1) = ((f_X4_count x.1.2.1).bind fun t => some t) := by
  unfold f_X5_total
  simp only [show ¬ nI 1 < 0 by decide, show ¬ 14 < nI 1 by decide, show ¬ nI 1 = 0 by decide, show (nI 1 = (1 : Int32)) = True from eq_true rfl, ↓reduceIte]
theorem tot6_1 {y : TX6s} : f_X6_total y (nI 1) = ((f_X6_cellSigns y 2).bind fun t => some t) := by
  unfold f_X6_total
  simp only [show ¬ nI 1 < 0 by decide, show ¬ 14 < nI 1 by decide, show ¬ nI 1 = 0 by decide, show (nI 1 = (1 : Int32)) = True from eq_true rfl, ↓reduceIte]
theorem tot5_2 {x : TX5s} : f_X5_total x (nI 2) = ((f_X4_count x.1.2.2.1).bind fun t => some t) := by
  unfold f_X5_total
  simp only [show ¬ nI 2 < 0 by decide, show ¬ 14 < nI 2 by decide, show ¬ nI 2 = 0 by decide, show ¬ nI 2 = 1 by decide, show (nI 2 = (2 : Int32)) = True from eq_true rfl, ↓reduceIte]
theorem tot6_2 {y : TX6s} : f_X6_total y (nI 2) = ((f_X6_dashes y).bind fun t => some t) := by
  unfold f_X6_total
  simp only [show ¬ nI 2 < 0 by decide, show ¬ 14 < nI 2 by decide, show ¬ nI 2 = 0 by decide, show ¬ nI 2 = 1 by decide, show (nI 2 = (2 : Int32)) = True from eq_true rfl, ↓reduceIte]
theorem tot5_3 {x : TX5s} : f_X5_total x (nI 3) = ((f_X4_countFrom x.1.2.1 (x.1.2.2.2.2.1 0)).bind fun t => some t) := by
  unfold f_X5_total
  simp only [show ¬ nI 3 < 0 by decide, show ¬ 14 < nI 3 by decide, show ¬ nI 3 = 0 by decide, show ¬ nI 3 = 1 by decide, show ¬ nI 3 = 2 by decide, show (nI 3 = (3 : Int32)) = True from eq_true rfl, ↓reduceIte, gcl li0 (show 0 < 2 by omega) (by omega), cl0]
theorem tot6_3 {y : TX6s} : f_X6_total y (nI 3) = ((f_X6_readable y).bind fun t => some t) := by
  unfold f_X6_total
  simp only [show ¬ nI 3 < 0 by decide, show ¬ 14 < nI 3 by decide, show ¬ nI 3 = 0 by decide, show ¬ nI 3 = 1 by decide, show ¬ nI 3 = 2 by decide, show (nI 3 = (3 : Int32)) = True from eq_true rfl, ↓reduceIte]
theorem tot5_4 {x : TX5s} : f_X5_total x (nI 4) = (some x.1.2.2.2.2.2.1) := by
  unfold f_X5_total
  simp only [show ¬ nI 4 < 0 by decide, show ¬ 14 < nI 4 by decide, show ¬ nI 4 = 0 by decide, show ¬ nI 4 = 1 by decide, show ¬ nI 4 = 2 by decide, show ¬ nI 4 = 3 by decide, show (nI 4 = (4 : Int32)) = True from eq_true rfl, ↓reduceIte]
theorem tot6_4 {y : TX6s} : f_X6_total y (nI 4) = (some (y.1 5)) := by
  unfold f_X6_total
  simp only [show ¬ nI 4 < 0 by decide, show ¬ 14 < nI 4 by decide, show ¬ nI 4 = 0 by decide, show ¬ nI 4 = 1 by decide, show ¬ nI 4 = 2 by decide, show ¬ nI 4 = 3 by decide, show (nI 4 = (4 : Int32)) = True from eq_true rfl, ↓reduceIte, gcl (show 5 + nI 4 - 4 = nI 5 by decide) (show 5 < 268 by omega) (by omega), clk (show 5 + nI 4 - 4 = nI 5 by decide) (show 5 < 2 ^ 31 by omega)]
theorem tot5_5 {x : TX5s} : f_X5_total x (nI 5) = (some x.1.2.2.2.2.2.2.1) := by
  unfold f_X5_total
  simp only [show ¬ nI 5 < 0 by decide, show ¬ 14 < nI 5 by decide, show ¬ nI 5 = 0 by decide, show ¬ nI 5 = 1 by decide, show ¬ nI 5 = 2 by decide, show ¬ nI 5 = 3 by decide, show ¬ nI 5 = 4 by decide, show (nI 5 = (5 : Int32)) = True from eq_true rfl, ↓reduceIte]
theorem tot6_5 {y : TX6s} : f_X6_total y (nI 5) = (some (y.1 6)) := by
  unfold f_X6_total
  simp only [show ¬ nI 5 < 0 by decide, show ¬ 14 < nI 5 by decide, show ¬ nI 5 = 0 by decide, show ¬ nI 5 = 1 by decide, show ¬ nI 5 = 2 by decide, show ¬ nI 5 = 3 by decide, show ¬ nI 5 = 4 by decide, show (nI 5 = (5 : Int32)) = True from eq_true rfl, ↓reduceIte, gcl (show 5 + nI 5 - 4 = nI 6 by decide) (show 6 < 268 by omega) (by omega), clk (show 5 + nI 5 - 4 = nI 6 by decide) (show 6 < 2 ^ 31 by omega)]
theorem tot5_6 {x : TX5s} : f_X5_total x (nI 6) = (some x.1.2.2.2.2.2.2.2.1) := by
  unfold f_X5_total
  simp only [show ¬ nI 6 < 0 by decide, show ¬ 14 < nI 6 by decide, show ¬ nI 6 = 0 by decide, show ¬ nI 6 = 1 by decide, show ¬ nI 6 = 2 by decide, show ¬ nI 6 = 3 by decide, show ¬ nI 6 = 4 by decide, show ¬ nI 6 = 5 by decide, show (nI 6 = (6 : Int32)) = True from eq_true rfl, ↓reduceIte]
theorem tot6_6 {y : TX6s} : f_X6_total y (nI 6) = (some (y.1 7)) := by
  unfold f_X6_total
  simp only [show ¬ nI 6 < 0 by decide, show ¬ 14 < nI 6 by decide, show ¬ nI 6 = 0 by decide, show ¬ nI 6 = 1 by decide, show ¬ nI 6 = 2 by decide, show ¬ nI 6 = 3 by decide, show ¬ nI 6 = 4 by decide, show ¬ nI 6 = 5 by decide, show (nI 6 = (6 : Int32)) = True from eq_true rfl, ↓reduceIte, gcl (show 5 + nI 6 - 4 = nI 7 by decide) (show 7 < 268 by omega) (by omega), clk (show 5 + nI 6 - 4 = nI 7 by decide) (show 7 < 2 ^ 31 by omega)]
theorem tot5_7 {x : TX5s} : f_X5_total x (nI 7) = (some x.1.2.2.2.2.2.2.2.2.1) := by
  unfold f_X5_total
  simp only [show ¬ nI 7 < 0 by decide, show ¬ 14 < nI 7 by decide, show ¬ nI 7 = 0 by decide, show ¬ nI 7 = 1 by decide, show ¬ nI 7 = 2 by decide, show ¬ nI 7 = 3 by decide, show ¬ nI 7 = 4 by decide, show ¬ nI 7 = 5 by decide, show ¬ nI 7 = 6 by decide, show (nI 7 = (7 : Int32)) = True from eq_true rfl, ↓reduceIte]
theorem tot6_7 {y : TX6s} : f_X6_total y (nI 7) = (some (y.1 8)) := by
  unfold f_X6_total
  simp only [show ¬ nI 7 < 0 by decide, show ¬ 14 < nI 7 by decide, show ¬ nI 7 = 0 by decide, show ¬ nI 7 = 1 by decide, show ¬ nI 7 = 2 by decide, show ¬ nI 7 = 3 by decide, show ¬ nI 7 = 4 by decide, show ¬ nI 7 = 5 by decide, show ¬ nI 7 = 6 by decide, show (nI 7 = (7 : Int32)) = True from eq_true rfl, ↓reduceIte, gcl (show 5 + nI 7 - 4 = nI 8 by decide) (show 8 < 268 by omega) (by omega), clk (show 5 + nI 7 - 4 = nI 8 by decide) (show 8 < 2 ^ 31 by omega)]
theorem tot5_8 {x : TX5s} : f_X5_total x (nI 8) = (some x.1.2.2.2.2.2.2.2.2.2) := by
  unfold f_X5_total
  simp only [show ¬ nI 8 < 0 by decide, show ¬ 14 < nI 8 by decide, show ¬ nI 8 = 0 by decide, show ¬ nI 8 = 1 by decide, show ¬ nI 8 = 2 by decide, show ¬ nI 8 = 3 by decide, show ¬ nI 8 = 4 by decide, show ¬ nI 8 = 5 by decide, show ¬ nI 8 = 6 by decide, show ¬ nI 8 = 7 by decide, show (nI 8 = (8 : Int32)) = True from eq_true rfl, ↓reduceIte]
theorem tot6_8 {y : TX6s} : f_X6_total y (nI 8) = (some (y.1 9)) := by
  unfold f_X6_total
  simp only [show ¬ nI 8 < 0 by decide, show ¬ 14 < nI 8 by decide, show ¬ nI 8 = 0 by decide, show ¬ nI 8 = 1 by decide, show ¬ nI 8 = 2 by decide, show ¬ nI 8 = 3 by decide, show ¬ nI 8 = 4 by decide, show ¬ nI 8 = 5 by decide, show ¬ nI 8 = 6 by decide, show ¬ nI 8 = 7 by decide, show (nI 8 = (8 : Int32)) = True from eq_true rfl, ↓reduceIte, gcl (show 5 + nI 8 - 4 = nI 9 by decide) (show 9 < 268 by omega) (by omega), clk (show 5 + nI 8 - 4 = nI 9 by decide) (show 9 < 2 ^ 31 by omega)]
theorem tot5_9 {x : TX5s} : f_X5_total x (nI 9) = ((f_X3_sumOfStrengths x.1).bind fun t => some t) := by
  unfold f_X5_total
  simp only [show ¬ nI 9 < 0 by decide, show ¬ 14 < nI 9 by decide, show ¬ nI 9 = 0 by decide, show ¬ nI 9 = 1 by decide, show ¬ nI 9 = 2 by decide, show ¬ nI 9 = 3 by decide, show ¬ nI 9 = 4 by decide, show ¬ nI 9 = 5 by decide, show ¬ nI 9 = 6 by decide, show ¬ nI 9 = 7 by decide, show ¬ nI 9 = 8 by decide, show (nI 9 = (9 : Int32)) = True from eq_true rfl, ↓reduceIte]
theorem tot6_9 {y : TX6s} : f_X6_total y (nI 9) = ((f_X6_strengths y).bind fun t => some t) := by
  unfold f_X6_total
  simp only [show ¬ nI 9 < 0 by decide, show ¬ 14 < nI 9 by decide, show ¬ nI 9 = 0 by decide, show ¬ nI 9 = 1 by decide, show ¬ nI 9 = 2 by decide, show ¬ nI 9 = 3 by decide, show ¬ nI 9 = 4 by decide, show ¬ nI 9 = 5 by decide, show ¬ nI 9 = 6 by decide, show ¬ nI 9 = 7 by decide, show ¬ nI 9 = 8 by decide, show (nI 9 = (9 : Int32)) = True from eq_true rfl, ↓reduceIte]
theorem tot5_10 {x : TX5s} : f_X5_total x (nI 10) = (some (x.1.2.2.2.1 0)) := by
  unfold f_X5_total
  simp only [show ¬ nI 10 < 0 by decide, show ¬ 14 < nI 10 by decide, show ¬ nI 10 = 0 by decide, show ¬ nI 10 = 1 by decide, show ¬ nI 10 = 2 by decide, show ¬ nI 10 = 3 by decide, show ¬ nI 10 = 4 by decide, show ¬ nI 10 = 5 by decide, show ¬ nI 10 = 6 by decide, show ¬ nI 10 = 7 by decide, show ¬ nI 10 = 8 by decide, show ¬ nI 10 = 9 by decide, show (nI 10 = (10 : Int32)) = True from eq_true rfl, ↓reduceIte, gcl li0 (show 0 < 3 by omega) (by omega), cl0]
theorem tot6_10 {y : TX6s} : f_X6_total y (nI 10) = (some (y.1 2)) := by
  unfold f_X6_total
  simp only [show ¬ nI 10 < 0 by decide, show ¬ 14 < nI 10 by decide, show ¬ nI 10 = 0 by decide, show ¬ nI 10 = 1 by decide, show ¬ nI 10 = 2 by decide, show ¬ nI 10 = 3 by decide, show ¬ nI 10 = 4 by decide, show ¬ nI 10 = 5 by decide, show ¬ nI 10 = 6 by decide, show ¬ nI 10 = 7 by decide, show ¬ nI 10 = 8 by decide, show ¬ nI 10 = 9 by decide, show (nI 10 = (10 : Int32)) = True from eq_true rfl, ↓reduceIte, gcl (show 2 + nI 10 - 10 = nI 2 by decide) (show 2 < 268 by omega) (by omega), clk (show 2 + nI 10 - 10 = nI 2 by decide) (show 2 < 2 ^ 31 by omega)]
theorem tot5_11 {x : TX5s} : f_X5_total x (nI 11) = (some (x.1.2.2.2.1 1)) := by
  unfold f_X5_total
  simp only [show ¬ nI 11 < 0 by decide, show ¬ 14 < nI 11 by decide, show ¬ nI 11 = 0 by decide, show ¬ nI 11 = 1 by decide, show ¬ nI 11 = 2 by decide, show ¬ nI 11 = 3 by decide, show ¬ nI 11 = 4 by decide, show ¬ nI 11 = 5 by decide, show ¬ nI 11 = 6 by decide, show ¬ nI 11 = 7 by decide, show ¬ nI 11 = 8 by decide, show ¬ nI 11 = 9 by decide, show ¬ nI 11 = 10 by decide, show (nI 11 = (11 : Int32)) = True from eq_true rfl, ↓reduceIte, gcl li1 (show 1 < 3 by omega) (by omega), clk li1 (show 1 < 2 ^ 31 by omega)]
theorem tot6_11 {y : TX6s} : f_X6_total y (nI 11) = (some (y.1 3)) := by
  unfold f_X6_total
  simp only [show ¬ nI 11 < 0 by decide, show ¬ 14 < nI 11 by decide, show ¬ nI 11 = 0 by decide, show ¬ nI 11 = 1 by decide, show ¬ nI 11 = 2 by decide, show ¬ nI 11 = 3 by decide, show ¬ nI 11 = 4 by decide, show ¬ nI 11 = 5 by decide, show ¬ nI 11 = 6 by decide, show ¬ nI 11 = 7 by decide, show ¬ nI 11 = 8 by decide, show ¬ nI 11 = 9 by decide, show ¬ nI 11 = 10 by decide, show (nI 11 = (11 : Int32)) = True from eq_true rfl, ↓reduceIte, gcl (show 2 + nI 11 - 10 = nI 3 by decide) (show 3 < 268 by omega) (by omega), clk (show 2 + nI 11 - 10 = nI 3 by decide) (show 3 < 2 ^ 31 by omega)]
theorem tot5_12 {x : TX5s} : f_X5_total x (nI 12) = (some (x.1.2.2.2.1 2)) := by
  unfold f_X5_total
  simp only [show ¬ nI 12 < 0 by decide, show ¬ 14 < nI 12 by decide, show ¬ nI 12 = 0 by decide, show ¬ nI 12 = 1 by decide, show ¬ nI 12 = 2 by decide, show ¬ nI 12 = 3 by decide, show ¬ nI 12 = 4 by decide, show ¬ nI 12 = 5 by decide, show ¬ nI 12 = 6 by decide, show ¬ nI 12 = 7 by decide, show ¬ nI 12 = 8 by decide, show ¬ nI 12 = 9 by decide, show ¬ nI 12 = 10 by decide, show ¬ nI 12 = 11 by decide, show (nI 12 = (12 : Int32)) = True from eq_true rfl, ↓reduceIte, gcl li2 (show 2 < 3 by omega) (by omega), clk li2 (show 2 < 2 ^ 31 by omega)]
theorem tot6_12 {y : TX6s} : f_X6_total y (nI 12) = (some (y.1 4)) := by
  unfold f_X6_total
  simp only [show ¬ nI 12 < 0 by decide, show ¬ 14 < nI 12 by decide, show ¬ nI 12 = 0 by decide, show ¬ nI 12 = 1 by decide, show ¬ nI 12 = 2 by decide, show ¬ nI 12 = 3 by decide, show ¬ nI 12 = 4 by decide, show ¬ nI 12 = 5 by decide, show ¬ nI 12 = 6 by decide, show ¬ nI 12 = 7 by decide, show ¬ nI 12 = 8 by decide, show ¬ nI 12 = 9 by decide, show ¬ nI 12 = 10 by decide, show ¬ nI 12 = 11 by decide, show (nI 12 = (12 : Int32)) = True from eq_true rfl, ↓reduceIte, gcl (show 2 + nI 12 - 10 = nI 4 by decide) (show 4 < 268 by omega) (by omega), clk (show 2 + nI 12 - 10 = nI 4 by decide) (show 4 < 2 ^ 31 by omega)]
theorem tot5_13 {x : TX5s} : f_X5_total x (nI 13) = (some (x.1.2.2.2.2.1 0)) := by
  unfold f_X5_total
  simp only [show ¬ nI 13 < 0 by decide, show ¬ 14 < nI 13 by decide, show ¬ nI 13 = 0 by decide, show ¬ nI 13 = 1 by decide, show ¬ nI 13 = 2 by decide, show ¬ nI 13 = 3 by decide, show ¬ nI 13 = 4 by decide, show ¬ nI 13 = 5 by decide, show ¬ nI 13 = 6 by decide, show ¬ nI 13 = 7 by decide, show ¬ nI 13 = 8 by decide, show ¬ nI 13 = 9 by decide, show ¬ nI 13 = 10 by decide, show ¬ nI 13 = 11 by decide, show ¬ nI 13 = 12 by decide, show (nI 13 = (13 : Int32)) = True from eq_true rfl, ↓reduceIte, gcl li0 (show 0 < 2 by omega) (by omega), cl0]
theorem tot6_13 {y : TX6s} : f_X6_total y (nI 13) = (some (y.1 0)) := by
  unfold f_X6_total
  simp only [show ¬ nI 13 < 0 by decide, show ¬ 14 < nI 13 by decide, show ¬ nI 13 = 0 by decide, show ¬ nI 13 = 1 by decide, show ¬ nI 13 = 2 by decide, show ¬ nI 13 = 3 by decide, show ¬ nI 13 = 4 by decide, show ¬ nI 13 = 5 by decide, show ¬ nI 13 = 6 by decide, show ¬ nI 13 = 7 by decide, show ¬ nI 13 = 8 by decide, show ¬ nI 13 = 9 by decide, show ¬ nI 13 = 10 by decide, show ¬ nI 13 = 11 by decide, show ¬ nI 13 = 12 by decide, show (nI 13 = (13 : Int32)) = True from eq_true rfl, ↓reduceIte, gcl (show nI 13 - 13 = nI 0 by decide) (show 0 < 268 by omega) (by omega), clk (show nI 13 - 13 = nI 0 by decide) (show 0 < 2 ^ 31 by omega)]
theorem tot5_14 {x : TX5s} : f_X5_total x (nI 14) = (some (x.1.2.2.2.2.1 1)) := by
  unfold f_X5_total
  simp only [show ¬ nI 14 < 0 by decide, show ¬ 14 < nI 14 by decide, show ¬ nI 14 = 0 by decide, show ¬ nI 14 = 1 by decide, show ¬ nI 14 = 2 by decide, show ¬ nI 14 = 3 by decide, show ¬ nI 14 = 4 by decide, show ¬ nI 14 = 5 by decide, show ¬ nI 14 = 6 by decide, show ¬ nI 14 = 7 by decide, show ¬ nI 14 = 8 by decide, show ¬ nI 14 = 9 by decide, show ¬ nI 14 = 10 by decide, show ¬ nI 14 = 11 by decide, show ¬ nI 14 = 12 by decide, show ¬ nI 14 = 13 by decide, show (nI 14 = (14 : Int32)) = True from eq_true rfl, ↓reduceIte, gcl li1 (show 1 < 2 by omega) (by omega), clk li1 (show 1 < 2 ^ 31 by omega)]
theorem tot6_14 {y : TX6s} : f_X6_total y (nI 14) = (some (y.1 1)) := by
  unfold f_X6_total
  simp only [show ¬ nI 14 < 0 by decide, show ¬ 14 < nI 14 by decide, show ¬ nI 14 = 0 by decide, show ¬ nI 14 = 1 by decide, show ¬ nI 14 = 2 by decide, show ¬ nI 14 = 3 by decide, show ¬ nI 14 = 4 by decide, show ¬ nI 14 = 5 by decide, show ¬ nI 14 = 6 by decide, show ¬ nI 14 = 7 by decide, show ¬ nI 14 = 8 by decide, show ¬ nI 14 = 9 by decide, show ¬ nI 14 = 10 by decide, show ¬ nI 14 = 11 by decide, show ¬ nI 14 = 12 by decide, show ¬ nI 14 = 13 by decide, show (nI 14 = (14 : Int32)) = True from eq_true rfl, ↓reduceIte, gcl (show nI 14 - 13 = nI 1 by decide) (show 1 < 268 by omega) (by omega), clk (show nI 14 - 13 = nI 1 by decide) (show 1 < 2 ^ 31 by omega)]
section LM
variable {x : TX5s} {y : TX6s}
theorem m_line (h : RZ x.1 y.1) (p q c : Int32) : ∃ v, f_X5_line x p q c = some v ∧ f_X6_line y p q c = some v := by
  obtain ⟨u, hr, hz, hu, _⟩ := h
  unfold f_X5_line f_X6_line
  rcases line_cases p q with ⟨a, b, ha, hb, rfl, rfl, e⟩ | e
  · rcases in_cases c 0 1 li0 li1 (by omega) (by omega) with ⟨d, _, hd, rfl, e2⟩ | e2
    · rw [placeError_0 (by rw [place2]; exact e) e2 (by decide), e]
      simp only [Option.bind_some, show ¬ (1 : Int32) = 0 by decide, ↓reduceIte, e2, lineAt_n, nI_add, nI_clamp (show 204 + 2 * (16 * a + b) + d < 2 ^ 31 by omega), g_in2 (show 204 + 2 * (16 * a + b) + d < 268 by omega) (by omega), hz.at (show 204 + 2 * (16 * a + b) + d < 268 by omega) (Or.inr (by omega))]
      unfold f_X3_linePart f_X3_dashAt
      rw [dashAt_u hr hu ha hb, strengthAt_u hr.2.2.1 (by omega) (show 16 * a + b < 32 by omega)]
      have h1 : d = 0 ∨ d = 1 := by omega
      rcases h1 with rfl | rfl
      · exact ⟨_, rfl, rfl⟩
      · exact ⟨_, rfl, rfl⟩
    · rw [placeError_2 (by rw [place2]; exact e) e2 (by decide), e]
      simp only [Option.bind_some, show ¬ (1 : Int32) = 0 by decide, show ¬ (-2 : Int32) = 0 by decide, ↓reduceIte, e2]
      exact ⟨_, rfl, rfl⟩
  · rw [placeError_1 (by rw [place2]; exact e), e]
    exact ⟨_, rfl, rfl⟩
theorem m_cell (h : RZ x.1 y.1) (p q c : Int32) : ∃ v, f_X5_cell x p q c = some v ∧ f_X6_cell y p q c = some v := by
  obtain ⟨u, hr, hz, hu, _⟩ := h
  unfold f_X5_cell f_X6_cell
  rcases cell_cases p q with ⟨a, b, ha, hb, rfl, rfl, e⟩ | e
  · rw [e]
    simp only [Option.bind_some, show ¬ (1 : Int32) = 0 by decide, ↓reduceIte, cellAt_n]
    by_cases c0 : c < 0
    · rw [placeError_2 (N := 6) (by rw [place3]; exact e) (by unfold f_X6_in; rw [if_pos c0]) (by decide), if_pos c0]
      exact ⟨_, rfl, rfl⟩
    · rw [if_neg c0]
      by_cases c6 : 6 < c
      · rw [placeError_2 (N := 6) (by rw [place3]; exact e) (by unfold f_X6_in; rw [if_neg c0]; exact if_pos c6) (by decide), if_pos c6]
        exact ⟨_, rfl, rfl⟩
      · rw [placeError_0 (N := 6) (by rw [place3]; exact e) (by unfold f_X6_in; rw [if_neg c0]; exact if_neg c6) (by decide), if_neg c6]
        simp only [Option.bind_some, ↓reduceIte]
        unfold f_X3_cellPart
        rw [if_neg c0, if_neg c6]
        obtain ⟨d, hd, rfl⟩ := nI_of c0
        have hd6 : d ≤ 6 := by rw [li6, nI_ltI (by omega) hd] at c6; omega
        have h7 := (hu.2.1 (16 * a + b) (by omega))
        have h8 : d = 0 ∨ d = 1 ∨ d = 2 ∨ d = 3 ∨ d = 4 ∨ d = 5 ∨ d = 6 := by omega
        have z1 : y.1 (12 + 4 * (16 * a + b) + 1) = _ := hz.at (show 12 + 4 * (16 * a + b) + 1 < 268 by omega) (Or.inr (by omega))
        have z2 : y.1 (12 + 4 * (16 * a + b) + 2) = _ := hz.at (show 12 + 4 * (16 * a + b) + 2 < 268 by omega) (Or.inr (by omega))
        have z3 : y.1 (12 + 4 * (16 * a + b) + 3) = _ := hz.at (show 12 + 4 * (16 * a + b) + 3 < 268 by omega) (Or.inr (by omega))
        rw [show 12 + 4 * (16 * a + b) + 2 = 14 + 4 * (16 * a + b) by omega] at z2
        rw [show 12 + 4 * (16 * a + b) + 3 = 14 + 4 * (16 * a + b) + 1 by omega] at z3
        rcases h8 with rfl | rfl | rfl | rfl | rfl | rfl | rfl
        · simp only [show (nI 0 = (0 : Int32)) = True from eq_true rfl, ↓reduceIte]
          rw [arrowWay_u hr hu ha hb, wayAt_w hz hu ha hb]
          exact ⟨_, rfl, rfl⟩
        · simp only [show ¬ nI 1 = 0 by decide, show (nI 1 = (1 : Int32)) = True from eq_true rfl, ↓reduceIte]
          rw [strengthAt_u hr.1 (by omega) (show 16 * a + b < 48 by omega)]
          simp only [nI_add, nI_clamp (show 12 + 4 * (16 * a + b) + 1 < 2 ^ 31 by omega), g_in2 (show 12 + 4 * (16 * a + b) + 1 < 268 by omega) (by omega), ↓reduceIte, z1]
          exact ⟨_, rfl, rfl⟩
        · simp only [show ¬ nI 2 = 0 by decide, show ¬ nI 2 = 1 by decide, show (nI 2 = (2 : Int32)) = True from eq_true rfl, ↓reduceIte]
          rw [kindOr_u hr.2.1 hu.2.1 (by omega) (show 16 * a + b < 48 by omega)]
          rw [li2]
          simp only [nI_add, show 12 + 4 * (16 * a + b) + 2 = 14 + 4 * (16 * a + b) by omega, nI_clamp (show 14 + 4 * (16 * a + b) < 2 ^ 31 by omega), g_in2 (show 14 + 4 * (16 * a + b) < 268 by omega) (by omega), ↓reduceIte, z2, eq0 (show u (14 + 4 * (16 * a + b)) < 2 ^ 31 by omega)]
          by_cases e0 : u (14 + 4 * (16 * a + b)) = 0
          · rw [if_pos e0, if_pos e0]
            exact ⟨_, rfl, rfl⟩
          · rw [if_neg e0, if_neg e0, li1, pk_sub (by omega)]
            exact ⟨_, rfl, rfl⟩
        · simp only [show ¬ nI 3 = 0 by decide, show ¬ nI 3 = 1 by decide, show ¬ nI 3 = 2 by decide, show (nI 3 = (3 : Int32)) = True from eq_true rfl, ↓reduceIte]
          rw [strengthAt_u hr.2.1 (by omega) (show 16 * a + b < 48 by omega)]
          simp only [nI_add, show 12 + 4 * (16 * a + b) + 3 = 14 + 4 * (16 * a + b) + 1 by omega, nI_clamp (show 14 + 4 * (16 * a + b) + 1 < 2 ^ 31 by omega), g_in2 (show 14 + 4 * (16 * a + b) + 1 < 268 by omega) (by omega), ↓reduceIte, z3]
          exact ⟨_, rfl, rfl⟩
        · simp only [show ¬ nI 4 = 0 by decide, show ¬ nI 4 = 1 by decide, show ¬ nI 4 = 2 by decide, show ¬ nI 4 = 3 by decide, show (nI 4 = (4 : Int32)) = True from eq_true rfl, ↓reduceIte]
          rw [canRead_u hr hu ha hb, isRead_u hz hu ha hb]
          simp only [Option.bind_some]
          unfold rdN
          by_cases e0 : u (15 + 4 * (16 * a + b)) < u 0
          · rw [if_pos e0]; exact ⟨_, rfl, rfl⟩
          · rw [if_neg e0]; exact ⟨_, rfl, rfl⟩
        · simp only [show ¬ nI 5 = 0 by decide, show ¬ nI 5 = 1 by decide, show ¬ nI 5 = 2 by decide, show ¬ nI 5 = 3 by decide, show ¬ nI 5 = 4 by decide, show (nI 5 = (5 : Int32)) = True from eq_true rfl, ↓reduceIte]
          rw [show (0 : Int32) = nI 0 from rfl, show nI 5 - 5 = nI 0 by decide, isFree_u hr hu ha hb (by omega), isFree6_u hz hu ha hb (by omega)]
          simp only [Option.bind_some]
          split
          · exact ⟨_, rfl, rfl⟩
          · exact ⟨_, rfl, rfl⟩
        · simp only [show ¬ nI 6 = 0 by decide, show ¬ nI 6 = 1 by decide, show ¬ nI 6 = 2 by decide, show ¬ nI 6 = 3 by decide, show ¬ nI 6 = 4 by decide, show ¬ nI 6 = 5 by decide, show (nI 6 = (6 : Int32)) = True from eq_true rfl, ↓reduceIte]
          rw [show (1 : Int32) = nI 1 from rfl, show nI 6 - 5 = nI 1 by decide, isFree_u hr hu ha hb (by omega), isFree6_u hz hu ha hb (by omega)]
          simp only [Option.bind_some]
          split
          · exact ⟨_, rfl, rfl⟩
          · exact ⟨_, rfl, rfl⟩
  · rw [placeError_1 (by rw [place3]; exact e), e]
    exact ⟨_, rfl, rfl⟩
theorem whyNot_u (h : RZ x.1 y.1) (p q c : Int32) : ∃ v, f_X5_whyNot x p q c = some v ∧ f_X6_whyNot y p q c = some v := by
  obtain ⟨u, hr, hz, hu, _⟩ := h
  unfold f_X5_whyNot f_X6_whyNot
  rcases cell_cases p q with ⟨a, b, ha, hb, rfl, rfl, e⟩ | e
  · rcases in_cases c 0 2 li0 li2 (by omega) (by omega) with ⟨d, _, hd, rfl, e2⟩ | e2
    · rw [placeError_0 (by rw [place3]; exact e) e2 (by decide), e]
      obtain ⟨n, hn, r1, r2⟩ := refusal_u hr hz hu ha hb (show d < 3 by omega)
      simp only [Option.bind_some, show ¬ (1 : Int32) = 0 by decide, ↓reduceIte, e2, r1, r2]
      exact ⟨_, rfl, rfl⟩
    · rw [placeError_2 (by rw [place3]; exact e) e2 (by decide), e]
      simp only [Option.bind_some, show ¬ (1 : Int32) = 0 by decide, show ¬ (-2 : Int32) = 0 by decide, ↓reduceIte, e2]
      exact ⟨_, rfl, rfl⟩
  · rw [placeError_1 (by rw [place3]; exact e), e]
    exact ⟨_, rfl, rfl⟩
/-- an arrow's error: of the class and of the reference -/
theorem arrowError_u {u : Nat → Nat} (hr : RdU u x.1) (hz : ZU u y.1) (hu : UOk u) (p q c : Int32) : (∃ a b d : Nat, a < 3 ∧ b < 16 ∧ d < 3 ∧ p = nI a ∧ q = nI b ∧ c = nI d ∧ f_X5_arrowError x p q c = some 0 ∧ f_X6_whyNotArrow y p q c = some 0) ∨ ∃ v : Int32, v < 0 ∧ f_X5_arrowError x p q c = some v ∧ f_X6_whyNotArrow y p q c = some v := by
  unfold f_X5_arrowError f_X6_whyNotArrow
  rcases cell_cases p q with ⟨a, b, ha, hb, rfl, rfl, e⟩ | e
  · rcases in_cases c 0 2 li0 li2 (by omega) (by omega) with ⟨d, _, hd, rfl, e2⟩ | e2
    · rw [placeError_0 (by rw [place3]; exact e) e2 (by decide), e]
      obtain ⟨n, hn, r1, r2⟩ := refusal_u hr hz hu ha hb (show d < 3 by omega)
      simp only [Option.bind_some, show ¬ (1 : Int32) = 0 by decide, ↓reduceIte, e2, r1, r2, eq0 (show n < 2 ^ 31 by omega), le0 (show n < 2 ^ 31 by omega)]
      by_cases h0 : n = 0
      · simp only [if_pos h0]
        exact Or.inl ⟨a, b, d, ha, hb, by omega, rfl, rfl, rfl, trivial, trivial⟩
      · simp only [if_neg h0]
        exact Or.inr ⟨-3, by decide, rfl, rfl⟩
    · rw [placeError_2 (by rw [place3]; exact e) e2 (by decide), e]
      simp only [Option.bind_some, show ¬ (1 : Int32) = 0 by decide, show ¬ (-2 : Int32) = 0 by decide, ↓reduceIte, e2]
      exact Or.inr ⟨-2, by decide, rfl, rfl⟩
  · rw [placeError_1 (by rw [place3]; exact e), e]
    exact Or.inr ⟨-1, by decide, rfl, rfl⟩
theorem m_readableFor (h : RZ x.1 y.1) (p q : Int32) : ∃ v, f_X5_readableFor x p q = some v ∧ f_X6_readableFor y p q = some v := by
  obtain ⟨u, hr, hz, hu, _⟩ := h
  unfold f_X5_readableFor
  rw [place3]
  rcases cell_cases p q with ⟨a, b, ha, hb, rfl, rfl, e⟩ | e
  · rw [e]
    obtain ⟨v, h1, h2⟩ := readableDays_u hr hz hu ha hb
    rw [h1, h2]
    exact ⟨_, rfl, rfl⟩
  · unfold f_X6_readableFor
    rw [e]
    exact ⟨_, rfl, rfl⟩
theorem m_mayChange (h : RZ x.1 y.1) (p q b d : Int32) : ∃ v, f_X5_mayChange x p q b d = some v ∧ f_X6_mayChange y p q b d = some v := by
  obtain ⟨u, hr, hz, hu, _⟩ := h
  unfold f_X5_mayChange f_X6_mayChange f_X6_mayChange_j32
  rw [place3, place3]
  rcases cell_cases p b with ⟨a, b, ha, hb, rfl, rfl, e⟩ | e
  · rcases cell_cases q (nI b) with ⟨c, b', hc, hb', rfl, e4, e3⟩ | e3
    · rw [e, e3]
      simp only [Option.bind_some, show ¬ (1 : Int32) = 0 by decide, ↓reduceIte, isW]
      have h1 : a = 0 ∨ a = 1 ∨ a = 2 := by omega
      have h2 : c = 0 ∨ c = 1 ∨ c = 2 := by omega
      have key : a ≠ c → ∃ v, ((f_X6_in d 0 1).bind fun t8 => if t8 = 0 then some (-2) else (f_X3_allowsChange x.1 (nI a) (nI c) (nI b) d).bind fun t11 => (f_X5_asNumber t11).bind fun t13 => some t13) = some v ∧ ((f_X6_in d 0 1).bind fun t7 => if t7 = 0 then some (-2) else (f_X6_canChange y (nI a) (nI c) (nI b) d).bind fun t10 => if t10 = 0 then some 0 else some 1) = some v := by
        intro hne
        rcases in_cases d 0 1 li0 li1 (by omega) (by omega) with ⟨d, _, hd, rfl, e2⟩ | e2
        · rw [e2, allows_u hr hu ha hc hne hb (by omega), canChange_u hz hu ha hc hne hb (by omega)]
          simp only [Option.bind_some, show ¬ (1 : Int32) = 0 by decide, ↓reduceIte]
          split
          · exact ⟨_, rfl, rfl⟩
          · exact ⟨_, rfl, rfl⟩
        · rw [e2]
          exact ⟨_, rfl, rfl⟩
      rcases h1 with rfl | rfl | rfl <;> rcases h2 with rfl | rfl | rfl
      · exact ⟨_, rfl, rfl⟩
      · exact key (by omega)
      · exact ⟨_, rfl, rfl⟩
      · exact key (by omega)
      · exact ⟨_, rfl, rfl⟩
      · exact key (by omega)
      · exact ⟨_, rfl, rfl⟩
      · exact key (by omega)
      · exact ⟨_, rfl, rfl⟩
    · rw [e, e3]
      exact ⟨_, rfl, rfl⟩
  · rw [e]
    exact ⟨_, rfl, rfl⟩
theorem m_total (h : RZ x.1 y.1) (p : Int32) : ∃ v, f_X5_total x p = some v ∧ f_X6_total y p = some v := by
  obtain ⟨u, hr, hz, hu, c6, c7, c8, c9⟩ := h
  by_cases c0 : p < 0
  · unfold f_X5_total f_X6_total
    rw [if_pos c0, if_pos c0]
    exact ⟨_, rfl, rfl⟩
  · by_cases c14 : 14 < p
    · unfold f_X5_total f_X6_total
      rw [if_neg c0, if_pos c14, if_neg c0, if_pos c14]
      exact ⟨_, rfl, rfl⟩
    · obtain ⟨d, hd, rfl⟩ := nI_of c0
      have hd6 : d ≤ 14 := by rw [li14, nI_ltI (by omega) hd] at c14; omega
      have zz : ∀ k, k < 6 → y.1 k = nI (u k) := fun k hk => hz.at (by omega) (Or.inl hk)
      have h8 : d = 0 ∨ d = 1 ∨ d = 2 ∨ d = 3 ∨ d = 4 ∨ d = 5 ∨ d = 6 ∨ d = 7 ∨ d = 8 ∨ d = 9 ∨ d = 10 ∨ d = 11 ∨ d = 12 ∨ d = 13 ∨ d = 14 := by omega
      rcases h8 with rfl | rfl | rfl | rfl | rfl | rfl | rfl | rfl | rfl | rfl | rfl | rfl | rfl | rfl | rfl
      · rw [tot5_0, tot6_0, count_u hr.1 hu.1 (by omega), show (0 : Int32) = nI 0 from rfl, cellSigns_u hz (Or.inl rfl) (fun i hi => by rw [show 12 + 0 + 4 * i = 12 + 4 * i by omega]; have := (hu.1 i hi).2.2; omega)]
        exact ⟨_, rfl, rfl⟩
      · rw [tot5_1, tot6_1, count_u hr.2.1 hu.2.1 (by omega), show (2 : Int32) = nI 2 from rfl, cellSigns_u hz (Or.inr rfl) (fun i hi => by rw [show 12 + 2 + 4 * i = 14 + 4 * i by omega]; have := (hu.2.1 i hi).2.2; omega)]
        exact ⟨_, rfl, rfl⟩
      · rw [tot5_2, tot6_2, count_u hr.2.2.1 hu.2.2.1 (by omega), dashes_u hz hu.2.2.1]
        exact ⟨_, rfl, rfl⟩
      · obtain ⟨v, h1, h2⟩ := readable_u hr hz hu
        rw [tot5_3, tot6_3, hr.2.2.2.2.1 0 (by omega), h1, h2]
        exact ⟨_, rfl, rfl⟩
      · rw [tot5_4, tot6_4, zz 5 (by omega), hr.2.2.2.2.2]
        exact ⟨_, rfl, rfl⟩
      · rw [tot5_5, tot6_5, c6]
        exact ⟨_, rfl, rfl⟩
      · rw [tot5_6, tot6_6, c7]
        exact ⟨_, rfl, rfl⟩
      · rw [tot5_7, tot6_7, c8]
        exact ⟨_, rfl, rfl⟩
      · rw [tot5_8, tot6_8, c9]
        exact ⟨_, rfl, rfl⟩
      · obtain ⟨v, h1, h2⟩ := sums3_u hr hz
        rw [tot5_9, tot6_9, h1, h2]
        exact ⟨_, rfl, rfl⟩
      · rw [tot5_10, tot6_10, zz 2 (by omega), hr.2.2.2.1 0 (by omega)]
        exact ⟨_, rfl, rfl⟩
      · rw [tot5_11, tot6_11, zz 3 (by omega), hr.2.2.2.1 1 (by omega)]
        exact ⟨_, rfl, rfl⟩
      · rw [tot5_12, tot6_12, zz 4 (by omega), hr.2.2.2.1 2 (by omega)]
        exact ⟨_, rfl, rfl⟩
      · rw [tot5_13, tot6_13, zz 0 (by omega), hr.2.2.2.2.1 0 (by omega)]
        exact ⟨_, rfl, rfl⟩
      · rw [tot5_14, tot6_14, zz 1 (by omega), hr.2.2.2.2.1 1 (by omega)]
        exact ⟨_, rfl, rfl⟩
end LM
