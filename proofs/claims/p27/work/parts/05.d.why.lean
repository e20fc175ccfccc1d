/-! reasons, changes of lane, places -/
theorem lp2999 {α β : Type} (body : (α → Option β) → α → Option β) (a : α) : lpN body 2999 a = body (lpN body 2998) a := rfl
theorem lp2998 {α β : Type} (body : (α → Option β) → α → Option β) (a : α) : lpN body 2998 a = body (lpN body 2997) a := rfl
section LR
variable {u : Nat → Nat} {r : TX3s} {y : TX6s}
theorem wyE {c d : Nat} (hc : c ≤ 3) (hd : d < 2) : (wyC c = 1 - nI d) = (c = 2 - d) := by
  have h1 : d = 0 ∨ d = 1 := by omega
  rcases wy_cases hc with ⟨rfl, e'⟩ | ⟨rfl, e'⟩ | ⟨rfl, e'⟩ | ⟨rfl, e'⟩ <;> rcases h1 with rfl | rfl <;> rw [e'] <;> decide
theorem reason_step (hz : ZU u y.1) (hu : UOk u) {a b d v : Nat} (ha : a < 3) (hb : b < 16) (hd : d < 3) (hv : v < 3) (hva : v ≤ a + 1) (hne : v ≠ a) (k : Int32 → Option Int32) : f_X6_reason_l57 y (nI a) (nI b) (nI d) k (nI v) = if opp u v (if a ≤ v then a else v) b d = true then some 2 else k (nI v + 2) := by
  unfold f_X6_reason_l57 f_X6_reason_j109
  have h3 := (hu.1 (16 * v + b) (by omega)).2.2
  simp only [nI_1, ltN (show a + 1 < 2 ^ 31 by omega) (show v < 2 ^ 31 by omega), leN (show a < 2 ^ 31 by omega) (show v < 2 ^ 31 by omega), show ¬ a + 1 < v by omega, ↓reduceIte, in_yes li0 li2 (show 0 ≤ v by omega) (show v ≤ 2 by omega) (by omega), Option.bind_some, show ¬ (1 : Int32) = 0 by decide, wayAt_w hz hu hv hb, lineAt_n]
  rw [show (2 : Int32) = nI 2 from rfl]
  simp only [leN (show 2 < 2 ^ 31 by omega) (show d < 2 ^ 31 by omega)]
  by_cases hd2 : 2 ≤ d
  · rw [if_pos hd2, if_neg (by unfold opp; rw [decide_eq_true_eq]; omega)]
  · simp only [if_neg hd2, wyE h3 (show d < 2 by omega)]
    by_cases hw : u (12 + 4 * (16 * v + b)) = 2 - d
    · rw [if_pos hw]
      have key : ∀ l, l < 2 → (if nI (204 + 2 * (16 * l + b)) < 0 ∨ 268 ≤ (nI (204 + 2 * (16 * l + b))).toNatClampNeg then none else if y.1 (nI (204 + 2 * (16 * l + b))).toNatClampNeg = 0 then some (nI 2) else if y.1 (nI (204 + 2 * (16 * l + b))).toNatClampNeg = nI 2 then some (nI 2) else k (nI v + nI 2)) = if opp u v l b d = true then some (nI 2) else k (nI v + nI 2) := by
        intro l hl
        have h4 := (hu.2.2.1 (16 * l + b) (by omega)).2.2
        simp only [nI_clamp (show 204 + 2 * (16 * l + b) < 2 ^ 31 by omega), g_in2 (show 204 + 2 * (16 * l + b) < 268 by omega) (by omega), ↓reduceIte, hz.at (show 204 + 2 * (16 * l + b) < 268 by omega) (Or.inr (by omega)), eq0 (show u (204 + 2 * (16 * l + b)) < 2 ^ 31 by omega), eqN (show u (204 + 2 * (16 * l + b)) < 2 ^ 31 by omega) (show 2 < 2 ^ 31 by omega)]
        by_cases e0 : u (204 + 2 * (16 * l + b)) = 0
        · rw [if_pos e0, if_pos (by unfold opp; rw [decide_eq_true_eq]; exact ⟨⟨by omega, hw⟩, Or.inl e0⟩)]
        · rw [if_neg e0]
          by_cases e2 : u (204 + 2 * (16 * l + b)) = 2
          · rw [if_pos e2, if_pos (by unfold opp; rw [decide_eq_true_eq]; exact ⟨⟨by omega, hw⟩, Or.inr e2⟩)]
          · rw [if_neg e2, if_neg (by unfold opp; rw [decide_eq_true_eq]; exact fun z => z.2.elim e0 e2)]
      by_cases h5 : a ≤ v
      · simp only [if_pos h5]
        exact key a (by omega)
      · simp only [if_neg h5]
        exact key v (by omega)
    · rw [if_neg hw, if_neg (by unfold opp; rw [decide_eq_true_eq]; exact fun z => hw z.1.2)]
theorem reason_end {a b d v : Nat} (ha : a < 3) (hva : a + 1 < v) (hv : v < 100) (k : Int32 → Option Int32) : f_X6_reason_l57 y (nI a) (nI b) (nI d) k (nI v) = some 0 := by
  unfold f_X6_reason_l57
  simp only [nI_1, ltN (show a + 1 < 2 ^ 31 by omega) (show v < 2 ^ 31 by omega), hva, ↓reduceIte]
theorem reason52_u (hz : ZU u y.1) (hu : UOk u) {a b d : Nat} (ha : a < 3) (hb : b < 16) (hd : d < 3) : f_X6_reason_j52 y (nI a) (nI b) (nI d) () = some (if 0 < a ∧ opp u (a - 1) (a - 1) b d = true then 2 else if a < 2 ∧ opp u (a + 1) a b d = true then 2 else 0) := by
  unfold f_X6_reason_j52
  have h1 : a = 0 ∨ a = 1 ∨ a = 2 := by omega
  rcases h1 with rfl | rfl | rfl
  · rw [show nI 0 - 1 = (-1 : Int32) by decide, lp3000]
    have e : ∀ k, f_X6_reason_l57 y (nI 0) (nI b) (nI d) k (-1) = k (nI 1) := by
      intro k
      unfold f_X6_reason_l57
      rw [if_neg (by decide), show f_X6_in (-1) 0 2 = some 0 from rfl]
      rfl
    rw [e, lp2999, reason_step hz hu (by omega) hb hd (by omega) (by omega) (by omega)]
    simp only [show ¬ 0 < 0 by omega, false_and, ↓reduceIte, show 0 < 2 by omega, true_and, show 0 ≤ 1 by omega, show 0 + 1 = 1 by omega]
    by_cases h : opp u 1 0 b d = true
    · rw [if_pos h, if_pos h]
    · rw [if_neg h, if_neg h, lp2998, show nI 1 + 2 = nI 3 by decide, reason_end (by omega) (by omega) (by omega)]
  · rw [show nI 1 - 1 = nI 0 by decide, lp3000, reason_step hz hu (by omega) hb hd (by omega) (by omega) (by omega)]
    simp only [show 0 < 1 by omega, ↓reduceIte, show 1 < 2 by omega, true_and, show ¬ 1 ≤ 0 by omega, show 1 + 1 = 2 by omega, show 1 - 1 = 0 by omega]
    by_cases h : opp u 0 0 b d = true
    · rw [if_pos h, if_pos h]
    · rw [if_neg h, if_neg h, lp2999, show nI 0 + 2 = nI 2 by decide, reason_step hz hu (by omega) hb hd (by omega) (by omega) (by omega)]
      simp only [show 1 ≤ 2 by omega, ↓reduceIte]
      by_cases h : opp u 2 1 b d = true
      · rw [if_pos h, if_pos h]
      · rw [if_neg h, if_neg h, lp2998, show nI 2 + 2 = nI 4 by decide, reason_end (by omega) (by omega) (by omega)]
  · rw [show nI 2 - 1 = nI 1 by decide, lp3000, reason_step hz hu (by omega) hb hd (by omega) (by omega) (by omega)]
    simp only [show 0 < 2 by omega, ↓reduceIte, show ¬ 2 < 2 by omega, true_and, false_and, show ¬ 2 ≤ 1 by omega, show 2 - 1 = 1 by omega]
    by_cases h : opp u 1 1 b d = true
    · rw [if_pos h, if_pos h]
    · rw [if_neg h, if_neg h, lp2999]
      have e : ∀ k, f_X6_reason_l57 y (nI 2) (nI b) (nI d) k (nI 1 + 2) = k (nI 5) := by
        intro k
        unfold f_X6_reason_l57
        rw [if_neg (by decide), show f_X6_in (nI 1 + 2) 0 2 = some 0 from rfl]
        rfl
      rw [e, lp2998, reason_end (by omega) (by omega) (by omega)]
theorem refusal_u (hr : RdU u r) (hz : ZU u y.1) (hu : UOk u) {a b d : Nat} (ha : a < 3) (hb : b < 16) (hd : d < 3) : ∃ n, n ≤ 2 ∧ f_X3_refusal r (nI a) (nI b) (nI d) = some (nI n) ∧ f_X6_reason y (nI a) (nI b) (nI d) = some (nI n) := by
  obtain ⟨c1, hc1, e1, e1'⟩ := nearest_u hr hz hu ha (nI b) 1
  obtain ⟨c3, hc3, e3, e3'⟩ := nearest_u hr hz hu ha (nI b) (-1)
  refine ⟨if (d = 0 ∨ d = 2) ∧ (c1 = 2 ∨ c1 = 3) then 1 else if (c3 = 1 ∨ c3 = 3) ∧ (d = 1 ∨ d = 2) then 1 else if 0 < a ∧ opp u (a - 1) (a - 1) b d = true then 2 else if a < 2 ∧ opp u (a + 1) a b d = true then 2 else 0, ?_, ?_, ?_⟩
  · split
    · omega
    · split
      · omega
      · split
        · omega
        · split <;> omega
  · unfold f_X3_refusal f_X3_refusal_j57 f_X3_refusal_j77 f_X3_refusal_j81 f_X3_refusal_j82
    simp only [e1, e3, Option.bind_some, meetHeadOn_c hd hc1, meetHeadOn_d hd hc3, le0 (show a < 2 ^ 31 by omega)]
    by_cases h1 : (d = 0 ∨ d = 2) ∧ (c1 = 2 ∨ c1 = 3)
    · simp only [if_pos h1]; rfl
    · simp only [if_neg h1, ↓reduceIte]
      by_cases h2 : (c3 = 1 ∨ c3 = 3) ∧ (d = 1 ∨ d = 2)
      · simp only [if_pos h2]; rfl
      · simp only [if_neg h2, ↓reduceIte]
        have key : (if 3 ≤ nI a + 1 then (if (0 : Int32) = 0 then some (0 : Int32) else some 2) else (f_X3_isOpposed r (nI a + 1) (nI a) (nI b) (nI d)).bind fun t13 => if t13 = 0 then (if (0 : Int32) = 0 then some (0 : Int32) else some 2) else if (1 : Int32) = 0 then some 0 else some 2) = some (nI (if a < 2 ∧ opp u (a + 1) a b d = true then 2 else 0)) := by
          rw [nI_1, li3]
          by_cases h3 : a < 2
          · rw [if_neg (by rw [nI_leI (by omega) (by omega)]; omega), isOpposed_u hr hu (by omega) h3 hb hd]
            simp only [h3, true_and, Option.bind_some]
            by_cases h4 : opp u (a + 1) a b d = true
            · simp only [if_pos h4]; rfl
            · simp only [if_neg h4]; rfl
          · rw [if_pos (by rw [nI_leI (by omega) (by omega)]; omega), if_pos rfl, if_neg (fun z => h3 z.1)]
            rfl
        by_cases h0 : a = 0
        · rw [if_pos h0, if_neg (show ¬ (0 < a ∧ opp u (a - 1) (a - 1) b d = true) from fun z => by have := z.1; omega)]
          exact key
        · rw [if_neg h0, li1, pk_sub (by omega), isOpposed_u hr hu (by omega) (by omega) hb hd]
          simp only [show 0 < a by omega, true_and, Option.bind_some]
          by_cases h4 : opp u (a - 1) (a - 1) b d = true
          · simp only [if_pos h4]; rfl
          · simp only [if_neg h4, ↓reduceIte]
            exact key
  · have q1 : ∀ (A B : Option Int32), (if wyC c1 = -6 then A else (f_X6_meets (nI d) (wyC c1)).bind fun t => if t = 0 then A else B) = if (d = 0 ∨ d = 2) ∧ (c1 = 2 ∨ c1 = 3) then B else A := by
      intro A B
      by_cases h : c1 = 0
      · subst h
        rw [if_pos (show wyC 0 = -6 from rfl), if_neg (by omega)]
      · rw [if_neg (by unfold wyC; rw [if_neg h, nI_ne6 (by omega)]; exact id), meets_c hd hc1 h, Option.bind_some]
        by_cases h1 : (d = 0 ∨ d = 2) ∧ (c1 = 2 ∨ c1 = 3)
        · simp only [if_pos h1]; rfl
        · simp only [if_neg h1]; rfl
    have q3 : ∀ (A B : Option Int32), (if wyC c3 = -6 then A else (f_X6_meets (wyC c3) (nI d)).bind fun t => if t = 0 then A else B) = if (c3 = 1 ∨ c3 = 3) ∧ (d = 1 ∨ d = 2) then B else A := by
      intro A B
      by_cases h : c3 = 0
      · subst h
        rw [if_pos (show wyC 0 = -6 from rfl), if_neg (by omega)]
      · rw [if_neg (by unfold wyC; rw [if_neg h, nI_ne6 (by omega)]; exact id), meets_d hd hc3 h, Option.bind_some]
        by_cases h1 : (c3 = 1 ∨ c3 = 3) ∧ (d = 1 ∨ d = 2)
        · simp only [if_pos h1]; rfl
        · simp only [if_neg h1]; rfl
    unfold f_X6_reason f_X6_reason_j34
    simp only [e1', e3', Option.bind_some]
    rw [q1, q3, reason52_u hz hu ha hb hd]
    by_cases h1 : (d = 0 ∨ d = 2) ∧ (c1 = 2 ∨ c1 = 3)
    · rw [if_pos h1, if_pos h1]; rfl
    · rw [if_neg h1, if_neg h1]
      by_cases h2 : (c3 = 1 ∨ c3 = 3) ∧ (d = 1 ∨ d = 2)
      · rw [if_pos h2, if_pos h2]; rfl
      · rw [if_neg h2, if_neg h2]
        split
        · rfl
        · split <;> rfl
/-- a change of lane is allowed -/
def okC (u : Nat → Nat) (a c b d : Nat) : Bool := decide (¬ u (12 + 4 * (16 * c + b)) = 2 - d ∧ (u (204 + 2 * (16 * (if c < a then c else a) + b)) = 0 ∨ u (204 + 2 * (16 * (if c < a then c else a) + b)) = 2 ∨ (u (204 + 2 * (16 * (if c < a then c else a) + b)) = 3 ∧ a < c)))
theorem allows_u (hr : RdU u r) (hu : UOk u) {a c b d : Nat} (ha : a < 3) (hc : c < 3) (hne : a ≠ c) (hb : b < 16) (hd : d < 2) : f_X3_allowsChange r (nI a) (nI c) (nI b) (nI d) = some (if okC u a c b d = true then 1 else 0) := by
  unfold f_X3_allowsChange f_X3_allowsChange_j34 f_X3_allowsChange_j38 f_X3_allowsChange_j39 f_X3_dashAt okC
  have hl : (if nI c < nI a then nI c else nI a) = nI (if c < a then c else a) := by
    simp only [ltN (show c < 2 ^ 31 by omega) (show a < 2 ^ 31 by omega)]
    split <;> rfl
  have hl2 : (if c < a then c else a) < 2 := by split <;> omega
  rw [hl, dashAt_u hr hu hl2 hb, isFree_u hr hu hc hb (by omega)]
  generalize (if c < a then c else a) = l at hl2
  have h4 := (hu.2.2.1 (16 * l + b) (by omega)).2.2
  simp only [Option.bind_some, leN (show c < 2 ^ 31 by omega) (show a < 2 ^ 31 by omega), show d < 2 by omega, true_and, decide_eq_true_eq]
  by_cases hw : u (12 + 4 * (16 * c + b)) = 2 - d
  · simp only [hw, not_true_eq_false, false_and, ↓reduceIte]
    rcases dash_cases h4 with e2 | e2 | e2 | e2 <;> rw [e2] <;> by_cases hca : c ≤ a <;> simp [hca] <;> decide
  · by_cases hca : c ≤ a
    · have h9 : ¬ a < c := by omega
      rcases dash_cases h4 with e2 | e2 | e2 | e2 <;> simp [hw, hca, h9, e2] <;> decide
    · have h9 : a < c := by omega
      rcases dash_cases h4 with e2 | e2 | e2 | e2 <;> simp [hw, hca, h9, e2] <;> decide
theorem canChange_u (hz : ZU u y.1) (hu : UOk u) {a c b d : Nat} (ha : a < 3) (hc : c < 3) (hne : a ≠ c) (hb : b < 16) (hd : d < 2) : f_X6_canChange y (nI a) (nI c) (nI b) (nI d) = some (if okC u a c b d = true then 1 else 0) := by
  have key : ∀ l, l < 2 → l = (if c < a then c else a) → f_X6_canChange_j14 y (nI a) (nI c) (nI b) (nI d) (nI l) = some (if okC u a c b d = true then 1 else 0) := by
    intro l hl2 hl
    unfold f_X6_canChange_j14 okC
    rw [← hl]
    have h4 := (hu.2.2.1 (16 * l + b) (by omega)).2.2
    simp only [lineAt_n, Option.bind_some, nI_clamp (show 204 + 2 * (16 * l + b) < 2 ^ 31 by omega), g_in2 (show 204 + 2 * (16 * l + b) < 268 by omega) (by omega), ↓reduceIte, hz.at (show 204 + 2 * (16 * l + b) < 268 by omega) (Or.inr (by omega)), isFree6_u hz hu hc hb (show d < 3 by omega), leN (show c < 2 ^ 31 by omega) (show a < 2 ^ 31 by omega), show d < 2 by omega, true_and, decide_eq_true_eq]
    by_cases hw : u (12 + 4 * (16 * c + b)) = 2 - d
    · simp only [hw, not_true_eq_false, false_and, ↓reduceIte]
    · by_cases hca : c ≤ a
      · have h9 : ¬ a < c := by omega
        rcases dash_cases h4 with e2 | e2 | e2 | e2 <;> simp [hw, hca, h9, e2] <;> decide
      · have h9 : a < c := by omega
        rcases dash_cases h4 with e2 | e2 | e2 | e2 <;> simp [hw, hca, h9, e2] <;> decide
  unfold f_X6_canChange
  simp only [leN (show c < 2 ^ 31 by omega) (show a < 2 ^ 31 by omega)]
  by_cases hca : c ≤ a
  · rw [if_pos hca]; exact key c (by omega) (by rw [if_pos (by omega)])
  · rw [if_neg hca]; exact key a (by omega) (by rw [if_neg (by omega)])
end LR
/-! places -/
theorem place3 {p q : Int32} : f_X5_isPlace p 3 q = f_X6_isCell p q := rfl
theorem place2 {p q : Int32} : f_X5_isPlace p 2 q = f_X6_isLine p q := rfl
theorem cell_cases (p q : Int32) : (∃ a b : Nat, a < 3 ∧ b < 16 ∧ p = nI a ∧ q = nI b ∧ f_X6_isCell p q = some 1) ∨ f_X6_isCell p q = some 0 := by
  unfold f_X6_isCell
  rcases in_cases p 0 2 li0 li2 (by omega) (by omega) with ⟨a, _, ha, e1, e2⟩ | e2
  · rcases in_cases q 0 15 li0 li15 (by omega) (by omega) with ⟨b, _, hb, e3, e4⟩ | e4
    · exact Or.inl ⟨a, b, by omega, by omega, e1, e3, by rw [e2, e4]; rfl⟩
    · exact Or.inr (by rw [e2, e4]; rfl)
  · exact Or.inr (by rw [e2]; rfl)
theorem line_cases (p q : Int32) : (∃ a b : Nat, a < 2 ∧ b < 16 ∧ p = nI a ∧ q = nI b ∧ f_X6_isLine p q = some 1) ∨ f_X6_isLine p q = some 0 := by
  unfold f_X6_isLine
  rcases in_cases p 0 1 li0 li1 (by omega) (by omega) with ⟨a, _, ha, e1, e2⟩ | e2
  · rcases in_cases q 0 15 li0 li15 (by omega) (by omega) with ⟨b, _, hb, e3, e4⟩ | e4
    · exact Or.inl ⟨a, b, by omega, by omega, e1, e3, by rw [e2, e4]; rfl⟩
    · exact Or.inr (by rw [e2, e4]; rfl)
  · exact Or.inr (by rw [e2]; rfl)
