/-! the night in both directions; the best night -/
section LB
variable {r : TX3s} {y : TX6s}
theorem workNight_u (h : RZ r y.1) {a c : Nat} (ha : a < 16) (hc : c < 16) : ∃ v r' z', f_X3_workNight r (nI a) (nI c) = some (v, r') ∧ f_X6_works y (nI a) (nI c) = some (v, (z', y.2)) ∧ RZ r' z' := by
  unfold f_X3_workNight f_X6_works
  simp only [ltN (show c < 2 ^ 31 by omega) (show a < 2 ^ 31 by omega)]
  have mneg : ∀ i, nI a + nI i * (-1) = nI a - nI i := fun i => by rw [Int32.mul_neg, Int32.mul_one, ← Int32.sub_eq_add_neg]
  by_cases hca : c < a
  · simp only [if_pos hca]
    refine night_u h ha (m := a - c + 1) (by omega) (nI c) (-1) ?_ ?_ ?_
    · have e : 0 - (nI c - nI a) = nI (a - c) := by rw [Int32.zero_sub, Int32.neg_sub, pk_sub (by omega)]
      have e2 : ¬ (0 : Int32) ≤ nI c - nI a := fun z => Int32.not_le.mpr (pk_sneg (show a < 2 ^ 30 by omega) hca) z
      rw [if_neg e2, e, nI_1]
    · intro i hi
      refine ⟨a - i, by omega, by rw [mneg, pk_sub (by omega)], ?_⟩
      by_cases h0 : c = 0
      · subst h0
        rw [show nI 0 + -1 = -nI 1 by decide]
        exact nI_ne_m (by omega) (by omega) (by omega)
      · rw [← Int32.sub_eq_add_neg, li1, pk_sub (by omega), nI_eq (by omega) (by omega)]
        omega
    · rw [mneg]
      by_cases h0 : c = 0
      · subst h0
        rw [show a - 0 + 1 = a + 1 by omega, ← nI_1, show nI 0 + -1 = (-1 : Int32) by decide, Int32.sub_eq_add_neg, Int32.neg_add, Int32.sub_eq_add_neg, ← Int32.add_assoc, Int32.add_right_neg, Int32.zero_add]
      · rw [← Int32.sub_eq_add_neg, li1, pk_sub (by omega), pk_sub (by omega), show a - (a - c + 1) = c - 1 by omega]
  · simp only [if_neg hca]
    refine night_u h ha (m := c - a + 1) (by omega) (nI c) 1 ?_ ?_ ?_
    · rw [pk_sub (by omega), if_pos (by rw [li0, nI_leI (by omega) (by omega)]; omega), nI_1]
    · intro i hi
      refine ⟨a + i, by omega, by rw [Int32.mul_one, nI_add], ?_⟩
      rw [nI_1, nI_eq (by omega) (by omega)]
      omega
    · rw [Int32.mul_one, nI_add, nI_1, show a + (c - a + 1) = c + 1 by omega]
/-- weak signs at a mile -/
def cm (u : Nat → Nat) (b : Nat) : Nat := sumN (fun k => wkN u (pl b k)) 8
theorem cm_le {u : Nat → Nat} {b : Nat} : cm u b ≤ 8 := Nat.le_trans (sumN_le (b := 1) (fun _ _ => wkN_le)) (by omega)
theorem countFaded4_u {u : Nat → Nat} {s : TX4s} {n rows b : Nat} (p : Nat → Nat) (h2 : s.2.1 = nI rows) (hrow : rows ≤ 3) (hF : ∀ j, j < rows → f_X4_isFaded s (nI j) (nI b) = some (nI (wkN u (p j)))) : f_X4_countFaded s (nI b) = some (nI (sumN (fun j => wkN u (p j)) rows)) := by
  unfold f_X4_countFaded
  obtain ⟨m, h4⟩ := lp_sum (f_X4_countFaded_l4 s (nI b)) (fun j => wkN u (p j)) (fun j => nI j) rows (by omega) (by
    intro k a j hj
    unfold f_X4_countFaded_l4
    simp only [h2, leN (show rows < 2 ^ 31 by omega) (show j < 2 ^ 31 by omega), show ¬ rows ≤ j by omega, ↓reduceIte, hF j hj, Option.bind_some, nI_1]
    rcases @wkN_01 u (p j) with e | e
    · rw [e, show nI 0 = (0 : Int32) from rfl, asNumber_0, Option.bind_some, li0, nI_add]
    · rw [e, show nI 1 = (1 : Int32) from rfl, asNumber_1, Option.bind_some, nI_1])
  rw [show ((0 : Int32), (0 : Int32)) = (0, (fun j => nI j) 0) from rfl, h4]
  unfold f_X4_countFaded_l4
  rw [if_pos (by rw [h2]; exact Int32.le_refl _)]
theorem countFaded_u {u : Nat → Nat} (hr : RdU u r) (hu : UOk u) {b : Nat} (hb : b < 16) : f_X3_countFaded r (nI b) = some (nI (cm u b)) := by
  unfold f_X3_countFaded
  rw [countFaded4_u (u := u) (n := 0) (fun j => 14 + 4 * (16 * j + b)) hr.2.1.2.1 (by omega) (fun j hj => isFaded_u hr.2.1 hu.2.1 (by omega) (show 16 * j + b < 48 by omega)), countFaded4_u (u := u) (n := 0) (fun j => 12 + 4 * (16 * j + b)) hr.1.2.1 (by omega) (fun j hj => isFaded_u hr.1 hu.1 (by omega) (show 16 * j + b < 48 by omega)), countFaded4_u (u := u) (n := 0) (fun j => 204 + 2 * (16 * j + b)) hr.2.2.1.2.1 (by omega) (fun j hj => isFaded_u hr.2.2.1 hu.2.2.1 (by omega) (show 16 * j + b < 32 by omega))]
  simp only [Option.bind_some, nI_add]
  unfold cm
  rw [show 8 = 3 + 3 + 2 by omega, sumN_add, sumN_add]
  have e1 : sumN (fun j => wkN u (14 + 4 * (16 * j + b))) 3 = sumN (fun k => wkN u (pl b k)) 3 := sumN_congr (fun i hi => by unfold pl; rw [if_pos hi])
  have e2 : sumN (fun j => wkN u (12 + 4 * (16 * j + b))) 3 = sumN (fun i => wkN u (pl b (3 + i))) 3 := sumN_congr (fun i hi => by unfold pl; rw [if_neg (by omega), if_pos (by omega), show 3 + i - 3 = i by omega])
  have e3 : sumN (fun j => wkN u (204 + 2 * (16 * j + b))) 2 = sumN (fun i => wkN u (pl b (3 + 3 + i))) 2 := sumN_congr (fun i hi => by unfold pl; rw [if_neg (by omega), if_neg (by omega), show 3 + 3 + i - 6 = i by omega])
  rw [e1, e2, e3]
/-- what a night from a mile on paints -/
def lmN (u : Nat → Nat) : Nat := if u 1 < u 5 then u 1 else u 5
def smN (u : Nat → Nat) (a n : Nat) : Nat := sumN (fun i => cm u (a + i)) n
def WN (u : Nat → Nat) (a d : Nat) : Nat := if lmN u < smN u a (d + 1) then lmN u else smN u a (d + 1)
theorem smN_le {u : Nat → Nat} {a n : Nat} : smN u a n ≤ 8 * n := sumN_le (fun _ _ => cm_le)
theorem wouldPaint_u {u : Nat → Nat} (hz : ZU u y.1) (hu : UOk u) {a c : Nat} (hac : a ≤ c) (hc : c < 16) : f_X6_wouldPaint y (nI a) (nI c) = some (nI (WN u a (c - a))) := by
  have h40 := hu.2.2.2.2.1
  have h99 := hu.2.2.2.2.2.2
  unfold f_X6_wouldPaint
  obtain ⟨m, h4⟩ := lp_sum (f_X6_wouldPaint_l5 y (nI c)) (fun i => cm u (a + i)) (fun j => nI (a + j)) (c + 1 - a) (by omega) (by
    intro k acc j hj
    unfold f_X6_wouldPaint_l5
    simp only [ltN (show c < 2 ^ 31 by omega) (show a + j < 2 ^ 31 by omega), show ¬ c < a + j by omega, ↓reduceIte]
    obtain ⟨m, h5⟩ := lp_sumA (f_X6_wouldPaint_l14 y k (nI acc, nI (a + j))) (fun i => wkN u (pl (a + j) i)) (fun j => nI j) 8 acc (by omega) (by
      intro k2 c2 i hi
      have g := pl_ok hu (show a + j < 16 by omega) hi
      have g2 := pl_le (show a + j < 16 by omega) hi
      have g3 := @pl_12 (a + j) i
      have hw := isWeak_u (y := y) (u := u) (z := y.1) g2 (hz.at (by omega) (Or.inr g3)) (hz.at g2 (Or.inr (by omega))) (by omega) g.1
      unfold f_X6_wouldPaint_l14
      simp only [show (8 : Int32) = nI 8 from rfl, leN (show 8 < 2 ^ 31 by omega) (show i < 2 ^ 31 by omega), show ¬ 8 ≤ i by omega, ↓reduceIte, signAt_n hi, Option.bind_some, hw, nI_1]
      rcases @wkN_01 u (pl (a + j) i) with e | e
      · rw [e, if_pos (by decide), li0, nI_add]
      · rw [e, if_neg (by decide)])
    rw [show (0 : Int32) = (fun j => nI j) 0 from rfl, h5]
    unfold f_X6_wouldPaint_l14
    rw [if_pos (show (8 : Int32) ≤ nI 8 by decide)]
    exact congrArg (fun z => k (nI (acc + cm u (a + j)), z)) ((nI_1 (a + j)).trans (by rw [Nat.add_assoc])))
  rw [show nI a = (fun j => nI (a + j)) 0 from rfl, h4]
  unfold f_X6_wouldPaint_l5 f_X6_wouldPaint_j85
  have hs : sumN (fun i => cm u (a + i)) (c + 1 - a) = smN u a (c - a + 1) := by unfold smN; rw [show c + 1 - a = c - a + 1 by omega]
  have hs2 := @smN_le u a (c - a + 1)
  rw [hs]
  simp only [ltN (show c < 2 ^ 31 by omega) (show a + (c + 1 - a) < 2 ^ 31 by omega), show c < a + (c + 1 - a) by omega, ↓reduceIte, gcl li5 (show 5 < 268 by omega) (by omega), gcl li1 (show 1 < 268 by omega) (by omega), clk li5 (show 5 < 2 ^ 31 by omega), clk li1 (show 1 < 2 ^ 31 by omega), hz.at (show 1 < 268 by omega) (Or.inl (by omega)), hz.at (show 5 < 268 by omega) (Or.inl (by omega)), leN (show u 1 < 2 ^ 31 by omega) (show u 5 < 2 ^ 31 by omega), leN (show u 1 < 2 ^ 31 by omega) (show smN u a (c - a + 1) < 2 ^ 31 by omega), leN (show u 5 < 2 ^ 31 by omega) (show smN u a (c - a + 1) < 2 ^ 31 by omega)]
  unfold WN lmN
  by_cases h1 : u 1 ≤ u 5
  · rw [if_pos h1]
    by_cases h2 : u 1 < u 5
    · rw [if_pos h2]
      by_cases h3 : u 1 ≤ smN u a (c - a + 1)
      · rw [if_pos h3]
        by_cases h6 : u 1 < smN u a (c - a + 1)
        · rw [if_pos h6]
        · rw [if_neg h6, show u 1 = smN u a (c - a + 1) by omega]
      · rw [if_neg h3, if_neg (by omega)]
    · rw [if_neg h2, show u 5 = u 1 by omega]
      by_cases h3 : u 1 ≤ smN u a (c - a + 1)
      · rw [if_pos h3]
        by_cases h6 : u 1 < smN u a (c - a + 1)
        · rw [if_pos h6]
        · rw [if_neg h6, show u 1 = smN u a (c - a + 1) by omega]
      · rw [if_neg h3, if_neg (by omega)]
  · rw [if_neg h1, if_neg (show ¬ u 1 < u 5 by omega)]
    by_cases h3 : u 5 ≤ smN u a (c - a + 1)
    · rw [if_pos h3]
      by_cases h6 : u 5 < smN u a (c - a + 1)
      · rw [if_pos h6]
      · rw [if_neg h6, show u 5 = smN u a (c - a + 1) by omega]
    · rw [if_neg h3, if_neg (by omega)]
/-- the best among what has been seen -/
def Sp (W : Nat → Nat → Nat) (S : Nat → Nat → Prop) (B M : Nat) (N : Int32) : Prop := (B = 0 ∧ M = 0 ∧ N = -6 ∧ ∀ a d, S a d → W a d = 0) ∨ (∃ a d, S a d ∧ B = W a d ∧ 0 < B ∧ M = d + 1 ∧ N = nI (17 * a + d) ∧ ∀ a' d', S a' d' → W a' d' < B ∨ (W a' d' = B ∧ (d < d' ∨ (d = d' ∧ a ≤ a'))))
theorem Sp.skip {W : Nat → Nat → Nat} {S S' : Nat → Nat → Prop} {B M : Nat} {N : Int32} (h : Sp W S B M N) {f e : Nat} (hS : ∀ a d, S' a d ↔ S a d ∨ (a = f ∧ d = e)) (hW : W f e < B ∨ W f e = 0 ∨ (W f e = B ∧ M ≤ e + 1)) (ho : ∀ a, S a e → a ≤ f) : Sp W S' B M N := by
  rcases h with ⟨h1, h2, h3, h4⟩ | ⟨a, d, h1, h2, h3, h4, h5, h6⟩
  · refine Or.inl ⟨h1, h2, h3, fun a d hs => ?_⟩
    rcases (hS a d).mp hs with h | ⟨rfl, rfl⟩
    · exact h4 a d h
    · omega
  · refine Or.inr ⟨a, d, (hS a d).mpr (Or.inl h1), h2, h3, h4, h5, fun a' d' hs => ?_⟩
    rcases (hS a' d').mp hs with h | ⟨rfl, rfl⟩
    · exact h6 a' d' h
    · rcases hW with hW | hW | ⟨hW, hM⟩
      · exact Or.inl hW
      · exact Or.inl (by omega)
      · refine Or.inr ⟨hW, ?_⟩
        by_cases hd : d < d'
        · exact Or.inl hd
        · have hd2 : d = d' := by omega
          exact Or.inr ⟨hd2, ho a (hd2 ▸ h1)⟩
theorem Sp.take {W : Nat → Nat → Nat} {S S' : Nat → Nat → Prop} {B M : Nat} {N : Int32} (h : Sp W S B M N) {f e : Nat} (hS : ∀ a d, S' a d ↔ S a d ∨ (a = f ∧ d = e)) (hW : B < W f e ∨ (0 < W f e ∧ W f e = B ∧ e + 1 < M)) : Sp W S' (W f e) (e + 1) (nI (17 * f + e)) := by
  refine Or.inr ⟨f, e, (hS f e).mpr (Or.inr ⟨rfl, rfl⟩), rfl, by omega, rfl, rfl, fun a' d' hs => ?_⟩
  rcases (hS a' d').mp hs with h' | ⟨rfl, rfl⟩
  · rcases h with ⟨h1, h2, h3, h4⟩ | ⟨a, d, h1, h2, h3, h4, h5, h6⟩
    · have := h4 a' d' h'
      exact Or.inl (by omega)
    · rcases h6 a' d' h' with h7 | ⟨h7, h8⟩
      · exact Or.inl (by omega)
      · rcases hW with hW | ⟨hW, hW2, hW3⟩
        · exact Or.inl (by omega)
        · exact Or.inr ⟨by omega, Or.inl (by omega)⟩
  · exact Or.inr ⟨rfl, Or.inr ⟨rfl, Nat.le_refl _⟩⟩
theorem Sp.same {W : Nat → Nat → Nat} {S S' : Nat → Nat → Prop} {B M : Nat} {N : Int32} (h : Sp W S B M N) (hS : ∀ a d, S' a d ↔ S a d) : Sp W S' B M N := by
  rcases h with ⟨h1, h2, h3, h4⟩ | ⟨a, d, h1, h2, h3, h4, h5, h6⟩
  · exact Or.inl ⟨h1, h2, h3, fun a d hs => h4 a d ((hS a d).mp hs)⟩
  · exact Or.inr ⟨a, d, (hS a d).mpr h1, h2, h3, h4, h5, fun a' d' hs => h6 a' d' ((hS a' d').mp hs)⟩
theorem Sp.uniq {W : Nat → Nat → Nat} {S : Nat → Nat → Prop} {B M B' M' : Nat} {N N' : Int32} (h : Sp W S B M N) (h' : Sp W S B' M' N') : N = N' := by
  rcases h with ⟨h1, h2, h3, h4⟩ | ⟨a, d, h1, h2, h3, h4, h5, h6⟩
  · rcases h' with ⟨_, _, g3, _⟩ | ⟨a', d', g1, g2, g3, _⟩
    · rw [h3, g3]
    · have := h4 a' d' g1
      omega
  · rcases h' with ⟨_, _, _, g4⟩ | ⟨a', d', g1, g2, g3, g4, g5, g6⟩
    · have := g4 a d h1
      omega
    · have q1 := h6 a' d' g1
      have q2 := g6 a d h1
      have e1 : a = a' ∧ d = d' := by omega
      rw [h5, g5, e1.1, e1.2]
end LB
