/-! why an arrow is refused: the class's nearest arrows, the law's -/
def NUp (u : Nat → Nat) (l b c1 : Nat) : Prop := (c1 = 0 ∧ ∀ i, b < i → i ≤ b + 4 → i < 16 → u (12 + 4 * (16 * l + i)) = 0) ∨ ∃ j, b < j ∧ j ≤ b + 4 ∧ j < 16 ∧ c1 = u (12 + 4 * (16 * l + j)) ∧ c1 ≠ 0 ∧ ∀ i, b < i → i < j → u (12 + 4 * (16 * l + i)) = 0
def NDn (u : Nat → Nat) (l b c3 : Nat) : Prop := (c3 = 0 ∧ ∀ i, i < b → b ≤ i + 4 → u (12 + 4 * (16 * l + i)) = 0) ∨ ∃ j, j < b ∧ b ≤ j + 4 ∧ c3 = u (12 + 4 * (16 * l + j)) ∧ c3 ≠ 0 ∧ ∀ i, j < i → i < b → u (12 + 4 * (16 * l + i)) = 0
theorem in_no {c : Nat} (h : 15 < c) (hc : c < 2 ^ 30) : f_X6_in (nI c) 0 15 = some 0 := by
  unfold f_X6_in
  rw [if_neg (nI_pos (by omega)), if_pos (by rw [li15, nI_ltI (by omega) (by omega)]; omega)]
theorem in_neg {x : Int32} (h : x < 0) : f_X6_in x 0 15 = some 0 := by
  unfold f_X6_in
  rw [if_pos h]
section NR
variable {u : Nat → Nat} {r : TX3s}
theorem near_up (hr : RdU u r) (hu : UOk u) {l b : Nat} (ha : l < 3) (hb : b < 16) : ∃ c1, c1 ≤ 3 ∧ f_X3_nearestArrow r (nI l) (nI b) 1 = some (wyC c1) ∧ NUp u l b c1 := by
  unfold f_X3_nearestArrow
  refine lpN_rule (f_X3_nearestArrow_l3 r (nI l) (nI b) 1) (fun _ res => ∃ c1, c1 ≤ 3 ∧ res = some (wyC c1) ∧ NUp u l b c1) (fun v => ∃ j, 1 ≤ j ∧ j ≤ 5 ∧ v = nI j ∧ ∀ i, b < i → i < b + j → i < 16 → u (12 + 4 * (16 * l + i)) = 0) (fun v => 5 - v.toNatClampNeg) ?_ 3000 1 ⟨1, by omega, by omega, rfl, fun i h1 h2 _ => by omega⟩ (by show 5 - (1 : Int32).toNatClampNeg < 3000; omega)
  rintro k v ⟨j, h1, h5, rfl, hz⟩ hk
  unfold f_X3_nearestArrow_l3
  simp only [li4, ltN (show 4 < 2 ^ 31 by omega) (show j < 2 ^ 31 by omega), Int32.mul_one, nI_add, isW]
  by_cases h4 : 4 < j
  · rw [if_pos h4]
    exact ⟨0, by omega, rfl, Or.inl ⟨rfl, fun i g1 g2 g3 => hz i g1 (by omega) g3⟩⟩
  · rw [if_neg h4]
    have hk' : (∀ i, b < i → i < b + (j + 1) → i < 16 → u (12 + 4 * (16 * l + i)) = 0) → ∃ c1, c1 ≤ 3 ∧ k (nI j + 1) = some (wyC c1) ∧ NUp u l b c1 := fun hz' => hk (nI j + 1) ⟨j + 1, by omega, by omega, nI_1 j, hz'⟩ (by rw [nI_1, nI_clamp (by omega), nI_clamp (by omega)]; omega)
    by_cases h6 : b + j ≤ 15
    · rw [in_yes li0 li15 (by omega) h6 (by omega)]
      have h3 := (hu.A (show 16 * l + (b + j) < 48 by omega)).2.2
      simp only [Option.bind_some, isAt_u hr.1 hu.1 (by omega) (show 16 * l + (b + j) < 48 by omega), arrowWay_u hr hu ha (show b + j < 16 by omega), show ¬ (1 : Int32) = 0 by decide, ↓reduceIte]
      by_cases h7 : u (12 + 4 * (16 * l + (b + j))) = 0
      · simp only [if_pos h7, ↓reduceIte]
        refine hk' (fun i g1 g2 g3 => ?_)
        by_cases e : i = b + j
        · rw [e]; exact h7
        · exact hz i g1 (by omega) g3
      · simp only [if_neg h7, show ¬ (1 : Int32) = 0 by decide, ↓reduceIte]
        exact ⟨_, h3, rfl, Or.inr ⟨b + j, by omega, by omega, by omega, rfl, h7, fun i g1 g2 => hz i g1 g2 (by omega)⟩⟩
    · rw [in_no (by omega) (by omega)]
      simp only [Option.bind_some, ↓reduceIte]
      exact hk' (fun i g1 g2 g3 => hz i g1 (by omega) g3)
theorem near_dn (hr : RdU u r) (hu : UOk u) {l b : Nat} (ha : l < 3) (hb : b < 16) : ∃ c3, c3 ≤ 3 ∧ f_X3_nearestArrow r (nI l) (nI b) (-1) = some (wyC c3) ∧ NDn u l b c3 := by
  unfold f_X3_nearestArrow
  refine lpN_rule (f_X3_nearestArrow_l3 r (nI l) (nI b) (-1)) (fun _ res => ∃ c3, c3 ≤ 3 ∧ res = some (wyC c3) ∧ NDn u l b c3) (fun v => ∃ j, 1 ≤ j ∧ j ≤ 5 ∧ v = nI j ∧ ∀ i, i < b → b < i + j → u (12 + 4 * (16 * l + i)) = 0) (fun v => 5 - v.toNatClampNeg) ?_ 3000 1 ⟨1, by omega, by omega, rfl, fun i h1 h2 => by omega⟩ (by show 5 - (1 : Int32).toNatClampNeg < 3000; omega)
  rintro k v ⟨j, h1, h5, rfl, hz⟩ hk
  unfold f_X3_nearestArrow_l3
  simp only [li4, ltN (show 4 < 2 ^ 31 by omega) (show j < 2 ^ 31 by omega), Int32.mul_neg, Int32.mul_one, ← Int32.sub_eq_add_neg, isW]
  by_cases h4 : 4 < j
  · rw [if_pos h4]
    exact ⟨0, by omega, rfl, Or.inl ⟨rfl, fun i g1 g2 => hz i g1 (by omega)⟩⟩
  · rw [if_neg h4]
    have hk' : (∀ i, i < b → b < i + (j + 1) → u (12 + 4 * (16 * l + i)) = 0) → ∃ c3, c3 ≤ 3 ∧ k (nI j + 1) = some (wyC c3) ∧ NDn u l b c3 := fun hz' => hk (nI j + 1) ⟨j + 1, by omega, by omega, nI_1 j, hz'⟩ (by rw [nI_1, nI_clamp (by omega), nI_clamp (by omega)]; omega)
    by_cases h6 : j ≤ b
    · rw [pk_sub h6, in_yes li0 li15 (by omega) (show b - j ≤ 15 by omega) (by omega)]
      have h3 := (hu.A (show 16 * l + (b - j) < 48 by omega)).2.2
      simp only [Option.bind_some, isAt_u hr.1 hu.1 (by omega) (show 16 * l + (b - j) < 48 by omega), arrowWay_u hr hu ha (show b - j < 16 by omega), show ¬ (1 : Int32) = 0 by decide, ↓reduceIte]
      by_cases h7 : u (12 + 4 * (16 * l + (b - j))) = 0
      · simp only [if_pos h7, ↓reduceIte]
        refine hk' (fun i g1 g2 => ?_)
        by_cases e : i = b - j
        · rw [e]; exact h7
        · exact hz i g1 (by omega)
      · simp only [if_neg h7, show ¬ (1 : Int32) = 0 by decide, ↓reduceIte]
        exact ⟨_, h3, rfl, Or.inr ⟨b - j, by omega, by omega, rfl, h7, fun i g1 g2 => hz i g2 (by omega)⟩⟩
    · rw [in_neg (pk_sneg (show j < 2 ^ 30 by omega) (by omega))]
      simp only [Option.bind_some, ↓reduceIte]
      exact hk' (fun i g1 g2 => hz i g1 (by omega))
theorem reasonN_le {a b d c1 c3 : Nat} : reasonN u a b d c1 c3 ≤ 2 := by
  unfold reasonN
  split
  · omega
  · split
    · omega
    · split
      · omega
      · split <;> omega
theorem refusal_c (hr : RdU u r) (hu : UOk u) {a b d c1 c3 : Nat} (ha : a < 3) (hb : b < 16) (hd : d < 3) (hc1 : c1 ≤ 3) (hc3 : c3 ≤ 3) (e1 : f_X3_nearestArrow r (nI a) (nI b) 1 = some (wyC c1)) (e3 : f_X3_nearestArrow r (nI a) (nI b) (-1) = some (wyC c3)) : f_X3_refusal r (nI a) (nI b) (nI d) = some (nI (reasonN u a b d c1 c3)) := by
  unfold f_X3_refusal f_X3_refusal_j57 f_X3_refusal_j77 f_X3_refusal_j81 f_X3_refusal_j82 reasonN
  simp only [e1, e3, Option.bind_some, meetHeadOn_c hd hc1, meetHeadOn_d hd hc3, le0 (show a < 2 ^ 31 by omega)]
  by_cases h1 : (d = 0 ∨ d = 2) ∧ (c1 = 2 ∨ c1 = 3)
  · simp only [if_pos h1]; rfl
  · simp only [if_neg h1, ↓reduceIte]
    by_cases h2 : (c3 = 1 ∨ c3 = 3) ∧ (d = 1 ∨ d = 2)
    · simp only [if_pos h2]; rfl
    · simp only [if_neg h2, ↓reduceIte]
      have key : (if 3 ≤ nI a + 1 then (if (0 : Int32) = 0 then some (0 : Int32) else some 2) else (f_X3_isOpposed r (nI a + 1) (nI a) (nI b) (nI d)).bind fun t13 => if t13 = 0 then (if (0 : Int32) = 0 then some (0 : Int32) else some 2) else if (1 : Int32) = 0 then some 0 else some 2) = some (nI (if a < 2 ∧ opp u (a + 1) a b d = true then 2 else 0)) := by
        rw [nI_1, li3]
        by_cases h3 : a < 2
        · rw [if_neg (by rw [nI_leI (by omega) (by omega)]; omega), isOpposed_u hr hu (by omega) h3 hb hd]
          simp only [h3, true_and, Option.bind_some]
          by_cases h4 : opp u (a + 1) a b d = true
          · simp only [if_pos h4]; rfl
          · simp only [if_neg h4]; rfl
        · rw [if_pos (by rw [nI_leI (by omega) (by omega)]; omega), if_pos rfl, if_neg (fun z => h3 z.1)]
          rfl
      by_cases h0 : a = 0
      · rw [if_pos h0, if_neg (show ¬ (0 < a ∧ opp u (a - 1) (a - 1) b d = true) from fun z => by have := z.1; omega)]
        exact key
      · rw [if_neg h0, li1, pk_sub (by omega), isOpposed_u hr hu (by omega) (by omega) hb hd]
        simp only [show 0 < a by omega, true_and, Option.bind_some]
        by_cases h4 : opp u (a - 1) (a - 1) b d = true
        · simp only [if_pos h4]; rfl
        · simp only [if_neg h4, ↓reduceIte]
          exact key
end NR
section LR2
variable {u : Nat → Nat} {a p w q d e t : Nat → Int32}
theorem wv_add {c k : Nat} (hc : c ≤ 3) (hk : k < 3) : (wv c + nI k = 1) = (c + k = 2) := by
  have hc' : c = 0 ∨ c = 1 ∨ c = 2 ∨ c = 3 := by omega
  have hk' : k = 0 ∨ k = 1 ∨ k = 2 := by omega
  rcases hc' with rfl | rfl | rfl | rfl <;> rcases hk' with rfl | rfl | rfl <;> exact propext ⟨fun z => by first | rfl | exact absurd z (by decide), fun z => by first | rfl | exact absurd z (by omega)⟩
theorem ixr (l b : Nat) : 16 * nI l + 16 + nI b = nI (16 * (l + 1) + b) := by
  rw [li16, pk_mul, nI_add, nI_add, show 16 * l + 16 + b = 16 * (l + 1) + b by omega]
theorem ixl {l : Nat} (h : 0 < l) (b : Nat) : 16 * nI l - 16 + nI b = nI (16 * (l - 1) + b) := by
  rw [li16, pk_mul, pk_sub (by omega), nI_add, show 16 * l - 16 + b = 16 * (l - 1) + b by omega]
/-- a neighbour's side -/
theorem side (X Y : Option Int32) {c k v : Nat} (hc : c ≤ 3) (hk : k < 3) (hv : v ≤ 3) : (if c + k = 2 then (if c = 0 then Y else if 2 ≤ k then Y else if v % 2 = 0 then X else Y) else Y) = if (k < 2 ∧ c = 2 - k) ∧ (v = 0 ∨ v = 2) then X else Y := by
  have hc' : c = 0 ∨ c = 1 ∨ c = 2 ∨ c = 3 := by omega
  have hk' : k = 0 ∨ k = 1 ∨ k = 2 := by omega
  have hv' : v = 0 ∨ v = 1 ∨ v = 2 ∨ v = 3 := by omega
  rcases hc' with rfl | rfl | rfl | rfl <;> rcases hk' with rfl | rfl | rfl <;> rcases hv' with rfl | rfl | rfl | rfl <;> rfl
theorem right_u (h : AR u a p w q d e t) (hu : UOk u) {l b k : Nat} (hl : l < 3) (hb : b < 16) (hk : k < 3) (s : Int32) : f_L_reason_j206 a d (nI l) (nI b) (nI k) s = f_L_reason_j269 s (if l < 2 ∧ opp u (l + 1) l b k = true then 1 else 0) := by
  unfold f_L_reason_j206 f_L_reason_j268
  simp only [li2, leN (show 2 < 2 ^ 31 by omega) (show l < 2 ^ 31 by omega), leN (show 2 < 2 ^ 31 by omega) (show k < 2 ^ 31 by omega)]
  by_cases h2 : 2 ≤ l
  · rw [if_pos h2, if_neg (fun z => by have := z.1; omega)]
  · rw [if_neg h2]
    obtain ⟨e1, -, -, -⟩ := h.1 (16 * (l + 1) + b) (by omega)
    obtain ⟨e2, -⟩ := h.2.1 (16 * l + b) (by omega)
    have h3 := (hu.A (show 16 * (l + 1) + b < 48 by omega)).2.2
    have h4 := (hu.D (show 16 * l + b < 32 by omega)).2.2
    have hp : nI (u (204 + 2 * (16 * l + b))) - nI (u (204 + 2 * (16 * l + b))) / nI 2 * nI 2 = nI (u (204 + 2 * (16 * l + b)) % 2) := par h4
    simp only [ixr, ix16', nI_clamp (show 16 * (l + 1) + b < 2 ^ 31 by omega), nI_clamp (show 16 * l + b < 2 ^ 31 by omega), g_in2 (show 16 * (l + 1) + b < 48 by omega) (by omega), g_in2 (show 16 * l + b < 32 by omega) (by omega), ↓reduceIte, e1, e2, wv_add h3 hk, wv_neg (show u (12 + 4 * (16 * (l + 1) + b)) < 2 ^ 30 by omega), hp, eq0 (show u (204 + 2 * (16 * l + b)) % 2 < 2 ^ 31 by omega)]
    rw [side _ _ h3 hk h4]
    unfold opp
    simp only [show l < 2 by omega, true_and, decide_eq_true_eq]
    split <;> rfl
theorem left_u (h : AR u a p w q d e t) (hu : UOk u) {l b k : Nat} (hl : l < 3) (hb : b < 16) (hk : k < 3) : f_L_reason_j143 a d (nI l) (nI b) (nI k) () = f_L_reason_j206 a d (nI l) (nI b) (nI k) (if 0 < l ∧ opp u (l - 1) (l - 1) b k = true then 1 else 0) := by
  unfold f_L_reason_j143 f_L_reason_j205
  simp only [le0 (show l < 2 ^ 31 by omega), li2, leN (show 2 < 2 ^ 31 by omega) (show k < 2 ^ 31 by omega)]
  by_cases h0 : l = 0
  · rw [if_pos h0, if_neg (fun z => by have := z.1; omega)]
  · rw [if_neg h0]
    obtain ⟨e1, -, -, -⟩ := h.1 (16 * (l - 1) + b) (by omega)
    obtain ⟨e2, -⟩ := h.2.1 (16 * (l - 1) + b) (by omega)
    have h3 := (hu.A (show 16 * (l - 1) + b < 48 by omega)).2.2
    have h4 := (hu.D (show 16 * (l - 1) + b < 32 by omega)).2.2
    have hp : nI (u (204 + 2 * (16 * (l - 1) + b))) - nI (u (204 + 2 * (16 * (l - 1) + b))) / nI 2 * nI 2 = nI (u (204 + 2 * (16 * (l - 1) + b)) % 2) := par h4
    simp only [ixl (show 0 < l by omega), nI_clamp (show 16 * (l - 1) + b < 2 ^ 31 by omega), g_in2 (show 16 * (l - 1) + b < 48 by omega) (by omega), g_in2 (show 16 * (l - 1) + b < 32 by omega) (by omega), ↓reduceIte, e1, e2, wv_add h3 hk, wv_neg (show u (12 + 4 * (16 * (l - 1) + b)) < 2 ^ 30 by omega), hp, eq0 (show u (204 + 2 * (16 * (l - 1) + b)) % 2 < 2 ^ 31 by omega)]
    rw [side _ _ h3 hk h4]
    unfold opp
    simp only [show 0 < l by omega, true_and, decide_eq_true_eq]
    split <;> rfl
theorem sides_u (h : AR u a p w q d e t) (hu : UOk u) {l b k : Nat} (hl : l < 3) (hb : b < 16) (hk : k < 3) : f_L_reason_j143 a d (nI l) (nI b) (nI k) () = some (nI (if 0 < l ∧ opp u (l - 1) (l - 1) b k = true then 2 else if l < 2 ∧ opp u (l + 1) l b k = true then 2 else 0)) := by
  rw [left_u h hu hl hb hk, right_u h hu hl hb hk]
  unfold f_L_reason_j269
  by_cases h1 : 0 < l ∧ opp u (l - 1) (l - 1) b k = true
  · rw [if_pos h1, if_pos h1]; rfl
  · rw [if_neg h1, if_neg h1]
    by_cases h2 : l < 2 ∧ opp u (l + 1) l b k = true
    · rw [if_pos h2, if_pos h2]; rfl
    · rw [if_neg h2, if_neg h2]; rfl
/-- what the law found below -/
def PDn (u : Nat → Nat) (l : Nat) (x : Int32) (m : Nat) : Prop := (x = -1 ∧ ∀ i, i < m → u (12 + 4 * (16 * l + i)) = 0) ∨ ∃ j, j < m ∧ x = nI j ∧ u (12 + 4 * (16 * l + j)) ≠ 0 ∧ ∀ i, j < i → i < m → u (12 + 4 * (16 * l + i)) = 0
/-- what the law found above -/
def PUp (u : Nat → Nat) (l : Nat) (x : Int32) (m : Nat) : Prop := (x = -1 ∧ ∀ i, m < i → i < 16 → u (12 + 4 * (16 * l + i)) = 0) ∨ ∃ j, m < j ∧ j < 16 ∧ x = nI j ∧ u (12 + 4 * (16 * l + j)) ≠ 0 ∧ ∀ i, m < i → i < j → u (12 + 4 * (16 * l + i)) = 0
theorem wv_lit {c k : Nat} {K : Int32} (e : K = nI k) (hc : c < 2 ^ 30) (hk : k < 2 ^ 30) : (wv c = K) = (c = k + 1) := by subst e; exact wv_eq hc hk
theorem below_u (h : AR u a p w q d e t) (hu : UOk u) {l b k c3 : Nat} (hl : l < 3) (hb : b < 16) (hk : k < 3) {x y : Int32} (hx : PDn u l x b) (hn : NDn u l b c3) : f_L_reason_j110 a d (nI l) (nI b) (nI k) (x, y) () = if (c3 = 1 ∨ c3 = 3) ∧ (k = 1 ∨ k = 2) then some 1 else f_L_reason_j143 a d (nI l) (nI b) (nI k) () := by
  unfold f_L_reason_j110
  rcases hx with ⟨rfl, hx⟩ | ⟨j, hj, rfl, hc, hx⟩
  · rw [if_pos (show (-1 : Int32) < 0 by decide)]
    have e0 : c3 = 0 := by
      rcases hn with ⟨e0, _⟩ | ⟨j, g1, g2, g3, g4, g5⟩
      · exact e0
      · rw [g3]; exact hx j g1
    rw [if_neg (by omega)]
  · rw [if_neg (show ¬ nI j < 0 from nI_pos (by omega))]
    have hs : (nI j < nI b - 4) = (j + 4 < b) := by
      by_cases h4 : 4 ≤ b
      · rw [li4, pk_sub h4, ltN (by omega) (by omega)]
        exact propext ⟨fun z => by omega, fun z => by omega⟩
      · refine propext ⟨fun z => ?_, fun z => by omega⟩
        have h5 : nI b - 4 < 0 := pk_sneg (a := b) (b := 4) (by omega) (by omega)
        exact absurd (Int32.lt_trans z h5) (nI_pos (by omega))
    simp only [hs]
    by_cases h4 : j + 4 < b
    · rw [if_pos h4]
      have e0 : c3 = 0 := by
        rcases hn with ⟨e0, _⟩ | ⟨j', g1, g2, g3, g4, g5⟩
        · exact e0
        · rw [g3]; exact hx j' (by omega) g1
      rw [if_neg (by omega)]
    · rw [if_neg h4]
      have e0 : c3 = u (12 + 4 * (16 * l + j)) := by
        rcases hn with ⟨_, g⟩ | ⟨j', g1, g2, g3, g4, g5⟩
        · exact absurd (g j hj (by omega)) hc
        · rcases Nat.lt_trichotomy j j' with z | z | z
          · exact absurd (g3.trans (hx j' z g1)) g4
          · rw [g3, z]
          · exact absurd (g5 j z hj) hc
      obtain ⟨e1, -, -, -⟩ := h.1 (16 * l + j) (by omega)
      have h3 := (hu.A (show 16 * l + j < 48 by omega)).2.2
      simp only [ix16', nI_clamp (show 16 * l + j < 2 ^ 31 by omega), g_in2 (show 16 * l + j < 48 by omega) (by omega), ↓reduceIte, e1, wv_lit li1 (show u (12 + 4 * (16 * l + j)) < 2 ^ 30 by omega) (by omega), eq0 (show k < 2 ^ 31 by omega)]
      by_cases h6 : u (12 + 4 * (16 * l + j)) = 1 + 1
      · rw [if_pos h6, if_neg (by omega)]
      · rw [if_neg h6]
        by_cases h7 : k = 0
        · rw [if_pos h7, if_neg (by omega)]
        · rw [if_neg h7, if_pos (by omega)]
theorem above_u (h : AR u a p w q d e t) (hu : UOk u) {l b k c1 : Nat} (hl : l < 3) (hb : b < 16) (hk : k < 3) {x y : Int32} (hx : PUp u l x b) (hn : NUp u l b c1) (X : Option Int32) : (if x < 0 then X else if nI b + 4 < x then X else if nI k = 1 then X else if (16 * nI l + x) < 0 ∨ 48 ≤ (16 * nI l + x).toNatClampNeg then none else if a (16 * nI l + x).toNatClampNeg = 0 then X else some 1) = if (k = 0 ∨ k = 2) ∧ (c1 = 2 ∨ c1 = 3) then some 1 else X := by
  rcases hx with ⟨rfl, hx⟩ | ⟨j, hj, hj2, rfl, hc, hx⟩
  · rw [if_pos (show (-1 : Int32) < 0 by decide)]
    have e0 : c1 = 0 := by
      rcases hn with ⟨e0, _⟩ | ⟨j, g1, g2, g3, g4, g5, g6⟩
      · exact e0
      · rw [g4]; exact hx j g1 g3
    rw [if_neg (by omega)]
  · rw [if_neg (show ¬ nI j < 0 from nI_pos (by omega))]
    simp only [li4, nI_add, ltN (show b + 4 < 2 ^ 31 by omega) (show j < 2 ^ 31 by omega)]
    by_cases h4 : b + 4 < j
    · rw [if_pos h4]
      have e0 : c1 = 0 := by
        rcases hn with ⟨e0, _⟩ | ⟨j', g1, g2, g3, g4, g5, g6⟩
        · exact e0
        · rw [g4]; exact hx j' g1 (by omega)
      rw [if_neg (by omega)]
    · rw [if_neg h4]
      have e0 : c1 = u (12 + 4 * (16 * l + j)) := by
        rcases hn with ⟨_, g⟩ | ⟨j', g1, g2, g3, g4, g5, g6⟩
        · exact absurd (g j hj (by omega) hj2) hc
        · rcases Nat.lt_trichotomy j j' with z | z | z
          · exact absurd (g6 j hj z) hc
          · rw [g4, z]
          · exact absurd (g4.trans (hx j' g1 z)) g5
      obtain ⟨e1, -, -, -⟩ := h.1 (16 * l + j) (by omega)
      have h3 := (hu.A (show 16 * l + j < 48 by omega)).2.2
      simp only [ix16', nI_clamp (show 16 * l + j < 2 ^ 31 by omega), g_in2 (show 16 * l + j < 48 by omega) (by omega), ↓reduceIte, e1, wv_lit li0 (show u (12 + 4 * (16 * l + j)) < 2 ^ 30 by omega) (by omega), li1, eqN (show k < 2 ^ 31 by omega) (show 1 < 2 ^ 31 by omega)]
      by_cases h7 : k = 1
      · rw [if_pos h7, if_neg (by omega)]
      · rw [if_neg h7]
        by_cases h6 : u (12 + 4 * (16 * l + j)) = 0 + 1
        · rw [if_pos h6, if_neg (by omega)]
        · rw [if_neg h6, if_pos (by omega)]
theorem reason_u (h : AR u a p w q d e t) (hu : UOk u) {l b k c1 c3 : Nat} (hl : l < 3) (hb : b < 16) (hk : k < 3) (h1 : NUp u l b c1) (h3 : NDn u l b c3) : f_L_reason a d (nI l) (nI b) (nI k) = some (nI (reasonN u l b k c1 c3)) := by
  have hfin : ∀ x y z, PUp u l x b → PDn u l y b → (if x < 0 then f_L_reason_j110 a d (nI l) (nI b) (nI k) (y, z) () else if nI b + 4 < x then f_L_reason_j110 a d (nI l) (nI b) (nI k) (y, z) () else if nI k = 1 then f_L_reason_j110 a d (nI l) (nI b) (nI k) (y, z) () else if (16 * nI l + x) < 0 ∨ 48 ≤ (16 * nI l + x).toNatClampNeg then none else if a (16 * nI l + x).toNatClampNeg = 0 then f_L_reason_j110 a d (nI l) (nI b) (nI k) (y, z) () else some 1) = some (nI (reasonN u l b k c1 c3)) := by
    intro x y z hx hy
    rw [above_u (y := 0) h hu hl hb hk hx h1, below_u h hu hl hb hk hy h3, sides_u h hu hl hb hk]
    unfold reasonN
    by_cases g1 : (k = 0 ∨ k = 2) ∧ (c1 = 2 ∨ c1 = 3)
    · rw [if_pos g1, if_pos g1]; rfl
    · rw [if_neg g1, if_neg g1]
      by_cases g2 : (c3 = 1 ∨ c3 = 3) ∧ (k = 1 ∨ k = 2)
      · rw [if_pos g2, if_pos g2]; rfl
      · rw [if_neg g2, if_neg g2]
  have step : ∀ m, m < 16 → a (16 * nI l + nI m).toNatClampNeg = wv (u (12 + 4 * (16 * l + m))) ∧ ((16 * nI l + nI m < 0 ∨ 48 ≤ (16 * nI l + nI m).toNatClampNeg) = False) ∧ u (12 + 4 * (16 * l + m)) < 2 ^ 30 := by
    intro m hm
    obtain ⟨e1, -, -, -⟩ := h.1 (16 * l + m) (by omega)
    have h3 := (hu.A (show 16 * l + m < 48 by omega)).2.2
    rw [ix16', nI_clamp (by omega), g_in2 (show 16 * l + m < 48 by omega) (by omega)]
    exact ⟨e1, rfl, by omega⟩
  unfold f_L_reason
  refine lpN_rule (f_L_reason_l10 a d (nI l) (nI b) (nI k)) (fun _ res => res = some (nI (reasonN u l b k c1 c3))) (fun v => ∃ m, b ≤ m ∧ m ≤ 15 ∧ v.2 = nI m ∧ PUp u l v.1 m) (fun v => v.2.toNatClampNeg) ?_ 3000 (-1, 15) ⟨15, by omega, by omega, rfl, Or.inl ⟨rfl, fun i g1 g2 => by omega⟩⟩ (by show (15 : Int32).toNatClampNeg < 3000; decide)
  rintro k1 ⟨x, v2⟩ ⟨m, hm, hm2, e2, hx⟩ hk1
  simp only at e2 hx
  subst e2
  unfold f_L_reason_l10
  simp only [leN (show m < 2 ^ 31 by omega) (show b < 2 ^ 31 by omega)]
  by_cases hmb : m ≤ b
  · rw [if_pos hmb]
    have hmb' : m = b := by omega
    subst hmb'
    refine lpN_rule (f_L_reason_l46 a d (nI l) (nI m) (nI k) (x, nI m)) (fun _ res => res = some (nI (reasonN u l m k c1 c3))) (fun v => ∃ j, j ≤ m ∧ v.2 = nI j ∧ PDn u l v.1 j) (fun v => 16 - v.2.toNatClampNeg) ?_ 3000 (-1, 0) ⟨0, by omega, rfl, Or.inl ⟨rfl, fun i g1 => by omega⟩⟩ (by show 16 - (0 : Int32).toNatClampNeg < 3000; omega)
    rintro k2 ⟨y, v2⟩ ⟨j, hj, e2, hy⟩ hk2
    simp only at e2 hy
    subst e2
    unfold f_L_reason_l46
    simp only [leN (show m < 2 ^ 31 by omega) (show j < 2 ^ 31 by omega)]
    by_cases hjm : m ≤ j
    · rw [if_pos hjm]
      have hjm' : j = m := by omega
      subst hjm'
      exact hfin x y _ hx hy
    · rw [if_neg hjm]
      obtain ⟨s1, s2, s3⟩ := step j (by omega)
      simp only [s1, s2, ↓reduceIte, wv_neg s3, nI_1]
      have hmu : 16 - (nI (j + 1)).toNatClampNeg < 16 - (nI j).toNatClampNeg := by
        rw [nI_clamp (by omega), nI_clamp (by omega)]; omega
      by_cases h0 : u (12 + 4 * (16 * l + j)) = 0
      · rw [if_pos h0]
        refine hk2 _ ⟨j + 1, by omega, rfl, ?_⟩ hmu
        rcases hy with ⟨g1, g2⟩ | ⟨i, g1, g2, g3, g4⟩
        · refine Or.inl ⟨g1, fun i gi => ?_⟩
          by_cases ei : i = j
          · rw [ei]; exact h0
          · exact g2 i (by omega)
        · refine Or.inr ⟨i, by omega, g2, g3, fun i' gi gj => ?_⟩
          by_cases ei : i' = j
          · rw [ei]; exact h0
          · exact g4 i' gi (by omega)
      · rw [if_neg h0]
        exact hk2 _ ⟨j + 1, by omega, rfl, Or.inr ⟨j, by omega, rfl, h0, fun i g1 g2 => by omega⟩⟩ hmu
  · rw [if_neg hmb]
    obtain ⟨s1, s2, s3⟩ := step m (by omega)
    have hm1 : nI m + (-1) = nI (m - 1) := by
      rw [← Int32.sub_eq_add_neg, li1, pk_sub (by omega)]
    simp only [s1, s2, ↓reduceIte, wv_neg s3, hm1]
    have hmu : (nI (m - 1)).toNatClampNeg < (nI m).toNatClampNeg := by
      rw [nI_clamp (by omega), nI_clamp (by omega)]; omega
    by_cases h0 : u (12 + 4 * (16 * l + m)) = 0
    · rw [if_pos h0]
      refine hk1 _ ⟨m - 1, by omega, by omega, rfl, ?_⟩ hmu
      rcases hx with ⟨g1, g2⟩ | ⟨i, g1, g2, g3, g4, g5⟩
      · refine Or.inl ⟨g1, fun i gi gj => ?_⟩
        by_cases ei : i = m
        · rw [ei]; exact h0
        · exact g2 i (by omega) gj
      · refine Or.inr ⟨i, by omega, g2, g3, g4, fun i' gi gj => ?_⟩
        by_cases ei : i' = m
        · rw [ei]; exact h0
        · exact g5 i' (by omega) gj
    · rw [if_neg h0]
      exact hk1 _ ⟨m - 1, by omega, by omega, rfl, Or.inr ⟨m, by omega, by omega, rfl, h0, fun i g1 g2 => by omega⟩⟩ hmu
end LR2
