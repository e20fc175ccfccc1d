/-! the law's rows beside the class's road -/
theorem li8 : (8 : Int32) = nI 8 := rfl
theorem li9 : (9 : Int32) = nI 9 := rfl
theorem li11 : (11 : Int32) = nI 11 := rfl
theorem li13 : (13 : Int32) = nI 13 := rfl
theorem li18 : (18 : Int32) = nI 18 := rfl
theorem li21 : (21 : Int32) = nI 21 := rfl
theorem li32 : (32 : Int32) = nI 32 := rfl
theorem li48 : (48 : Int32) = nI 48 := rfl
theorem li72 : (72 : Int32) = nI 72 := rfl
theorem li256 : (256 : Int32) = nI 256 := rfl
/-- an arrow or a word in a row: one less than its code, -1 for none -/
def wv (c : Nat) : Int32 := if c = 0 then -1 else nI (c - 1)
theorem wv_neg {c : Nat} (h : c < 2 ^ 30) : (wv c < 0) = (c = 0) := by
  unfold wv
  by_cases e : c = 0
  · rw [if_pos e]; exact propext ⟨fun _ => e, fun _ => by decide⟩
  · rw [if_neg e]; exact propext ⟨fun z => absurd z (nI_pos (by omega)), fun z => absurd z e⟩
theorem wv_ge {c : Nat} (h : c < 2 ^ 30) : (0 ≤ wv c) = ¬ (c = 0) := by
  rw [← wv_neg h]; exact propext Int32.not_lt.symm
theorem m1 : (-1 : Int32) = -nI 1 := rfl
theorem wv_eq {c k : Nat} (hc : c < 2 ^ 30) (hk : k < 2 ^ 30) : (wv c = nI k) = (c = k + 1) := by
  unfold wv
  by_cases e : c = 0
  · rw [if_pos e, m1]
    exact propext ⟨fun z => absurd z.symm (nI_ne_m (by omega) (by omega) (by omega)), fun z => by omega⟩
  · rw [if_neg e, eqN (by omega) (by omega)]
    exact propext ⟨fun z => by omega, fun z => by omega⟩
/-- the law's rows: arrows, their strengths, words, theirs, dashes, theirs, the numbers -/
def AR (u : Nat → Nat) (a p w q d e t : Nat → Int32) : Prop := (∀ i, i < 48 → a i = wv (u (12 + 4 * i)) ∧ p i = nI (u (13 + 4 * i)) ∧ w i = wv (u (14 + 4 * i)) ∧ q i = nI (u (15 + 4 * i))) ∧ (∀ i, i < 32 → d i = nI (u (204 + 2 * i)) ∧ e i = nI (u (205 + 2 * i))) ∧ ∀ i, i < 6 → t i = nI (u i)
theorem UOk.A {u : Nat → Nat} (h : UOk u) {i : Nat} (hi : i < 48) : u (13 + 4 * i) ≤ 100 ∧ (u (12 + 4 * i) = 0 ↔ u (13 + 4 * i) = 0) ∧ u (12 + 4 * i) ≤ 3 := by
  have g := h.1 i hi
  rw [show 12 + 4 * i + 1 = 13 + 4 * i by omega] at g
  exact g
theorem UOk.W {u : Nat → Nat} (h : UOk u) {i : Nat} (hi : i < 48) : u (15 + 4 * i) ≤ 100 ∧ (u (14 + 4 * i) = 0 ↔ u (15 + 4 * i) = 0) ∧ u (14 + 4 * i) ≤ 4 := by
  have g := h.2.1 i hi
  rw [show 14 + 4 * i + 1 = 15 + 4 * i by omega] at g
  exact g
theorem UOk.D {u : Nat → Nat} (h : UOk u) {i : Nat} (hi : i < 32) : u (205 + 2 * i) ≤ 100 ∧ (u (204 + 2 * i) = 0 ↔ u (205 + 2 * i) = 0) ∧ u (204 + 2 * i) ≤ 3 := by
  have g := h.2.2.1 i hi
  rw [show 204 + 2 * i + 1 = 205 + 2 * i by omega] at g
  exact g
theorem UOk.T {u : Nat → Nat} (h : UOk u) {i : Nat} (hi : i < 3) : u (2 + i) ≤ 20 := h.2.2.2.2.2.1 i hi
theorem UOk.s0 {u : Nat → Nat} (h : UOk u) : 1 ≤ u 0 ∧ u 0 ≤ 100 := h.2.2.2.1
theorem UOk.s1 {u : Nat → Nat} (h : UOk u) : 1 ≤ u 1 ∧ u 1 ≤ 40 := h.2.2.2.2.1
theorem UOk.c5 {u : Nat → Nat} (h : UOk u) : u 5 ≤ 99 := h.2.2.2.2.2.2
/-- other numbers, the same where they are looked at -/
theorem UOk.ext {u u' : Nat → Nat} (h : UOk u) (e : ∀ k, k < 268 → u' k = u k) : UOk u' := by
  refine ⟨fun i hi => ?_, fun i hi => ?_, fun i hi => ?_, ?_, ?_, fun i hi => ?_, ?_⟩
  · rw [e _ (by omega), e _ (by omega)]; exact h.1 i hi
  · rw [e _ (by omega), e _ (by omega)]; exact h.2.1 i hi
  · rw [e _ (by omega), e _ (by omega)]; exact h.2.2.1 i hi
  · rw [e _ (by omega)]; exact h.s0
  · rw [e _ (by omega)]; exact h.s1
  · rw [e _ (by omega)]; exact h.T hi
  · rw [e _ (by omega)]; exact h.c5
theorem AR.ext {u u' : Nat → Nat} {a p w q d e t : Nat → Int32} (h : AR u a p w q d e t) (hu : ∀ k, k < 268 → u' k = u k) : AR u' a p w q d e t := by
  refine ⟨fun i hi => ?_, fun i hi => ?_, fun i hi => ?_⟩
  · rw [hu _ (by omega), hu _ (by omega), hu _ (by omega), hu _ (by omega)]; exact h.1 i hi
  · rw [hu _ (by omega), hu _ (by omega)]; exact h.2.1 i hi
  · rw [hu _ (by omega)]; exact h.2.2 i hi
/-- the rows change at a cell -/
theorem AR.cell {u u' : Nat → Nat} {a p w q d e t a' p' w' q' : Nat → Int32} {i : Nat} (h : AR u a p w q d e t) (hu : ∀ k, k < 268 → (k < 12 + 4 * i ∨ 16 + 4 * i ≤ k) → u' k = u k) (hi : i < 48) (hn : ∀ j, j ≠ i → a' j = a j ∧ p' j = p j ∧ w' j = w j ∧ q' j = q j) (h1 : a' i = wv (u' (12 + 4 * i))) (h2 : p' i = nI (u' (13 + 4 * i))) (h3 : w' i = wv (u' (14 + 4 * i))) (h4 : q' i = nI (u' (15 + 4 * i))) : AR u' a' p' w' q' d e t := by
  refine ⟨fun j hj => ?_, fun j hj => ?_, fun j hj => ?_⟩
  · by_cases e : j = i
    · subst e; exact ⟨h1, h2, h3, h4⟩
    · obtain ⟨n1, n2, n3, n4⟩ := hn j e
      rw [hu _ (by omega) (by omega), hu _ (by omega) (by omega), hu _ (by omega) (by omega), hu _ (by omega) (by omega), n1, n2, n3, n4]
      exact h.1 j hj
  · rw [hu _ (by omega) (by omega), hu _ (by omega) (by omega)]; exact h.2.1 j hj
  · rw [hu _ (by omega) (by omega)]; exact h.2.2 j hj
/-- the rows change at a line -/
theorem AR.line {u u' : Nat → Nat} {a p w q d e t d' e' : Nat → Int32} {i : Nat} (h : AR u a p w q d e t) (hu : ∀ k, k < 268 → (k < 204 + 2 * i ∨ 206 + 2 * i ≤ k) → u' k = u k) (hi : i < 32) (hn : ∀ j, j ≠ i → d' j = d j ∧ e' j = e j) (h1 : d' i = nI (u' (204 + 2 * i))) (h2 : e' i = nI (u' (205 + 2 * i))) : AR u' a p w q d' e' t := by
  refine ⟨fun j hj => ?_, fun j hj => ?_, fun j hj => ?_⟩
  · rw [hu _ (by omega) (by omega), hu _ (by omega) (by omega), hu _ (by omega) (by omega), hu _ (by omega) (by omega)]
    exact h.1 j hj
  · by_cases e : j = i
    · subst e; exact ⟨h1, h2⟩
    · obtain ⟨n1, n2⟩ := hn j e
      rw [hu _ (by omega) (by omega), hu _ (by omega) (by omega), n1, n2]
      exact h.2.1 j hj
  · rw [hu _ (by omega) (by omega)]; exact h.2.2 j hj
/-- the numbers change -/
theorem AR.num {u u' : Nat → Nat} {a p w q d e t t' : Nat → Int32} (h : AR u a p w q d e t) (hu : ∀ k, 6 ≤ k → k < 268 → u' k = u k) (ht : ∀ i, i < 6 → t' i = nI (u' i)) : AR u' a p w q d e t' := by
  refine ⟨fun j hj => ?_, fun j hj => ?_, ht⟩
  · rw [hu _ (by omega) (by omega), hu _ (by omega) (by omega), hu _ (by omega) (by omega), hu _ (by omega) (by omega)]
    exact h.1 j hj
  · rw [hu _ (by omega) (by omega), hu _ (by omega) (by omega)]
    exact h.2.1 j hj
/-! the numbers' places -/
theorem tc0 : (0 : Int32).toNatClampNeg = 0 := rfl
theorem tc1 : (1 : Int32).toNatClampNeg = 1 := rfl
theorem tc2 : (2 : Int32).toNatClampNeg = 2 := rfl
theorem tc3 : (3 : Int32).toNatClampNeg = 3 := rfl
theorem tc4 : (4 : Int32).toNatClampNeg = 4 := rfl
theorem tc5 : (5 : Int32).toNatClampNeg = 5 := rfl
theorem tc6 : (6 : Int32).toNatClampNeg = 6 := rfl
theorem tc7 : (7 : Int32).toNatClampNeg = 7 := rfl
theorem tc8 : (8 : Int32).toNatClampNeg = 8 := rfl
theorem tc9 : (9 : Int32).toNatClampNeg = 9 := rfl
theorem tg0 : ((0 : Int32) < 0 ∨ 10 ≤ 0) = False := eq_false (by decide)
theorem tg1 : ((1 : Int32) < 0 ∨ 10 ≤ 1) = False := eq_false (by decide)
theorem tg2 : ((2 : Int32) < 0 ∨ 10 ≤ 2) = False := eq_false (by decide)
theorem tg3 : ((3 : Int32) < 0 ∨ 10 ≤ 3) = False := eq_false (by decide)
theorem tg4 : ((4 : Int32) < 0 ∨ 10 ≤ 4) = False := eq_false (by decide)
theorem tg5 : ((5 : Int32) < 0 ∨ 10 ≤ 5) = False := eq_false (by decide)
theorem tg6 : ((6 : Int32) < 0 ∨ 10 ≤ 6) = False := eq_false (by decide)
theorem tg7 : ((7 : Int32) < 0 ∨ 10 ≤ 7) = False := eq_false (by decide)
theorem tg8 : ((8 : Int32) < 0 ∨ 10 ≤ 8) = False := eq_false (by decide)
theorem tg9 : ((9 : Int32) < 0 ∨ 10 ≤ 9) = False := eq_false (by decide)
/-! the law's small methods -/
theorem rem_q {n m : Nat} (hn : n < 2 ^ 31) (hm : 0 < m) (hm2 : m < 2 ^ 31) : nI n - nI (n / m) * nI m = nI (n % m) := by
  rw [← pk_div hn hm hm2]
  exact pk_rem hn hm hm2
theorem low_u (v : Int32) {c : Int32} {n : Nat} (e : c = nI n) (h0 : 0 < n) (hn : n < 2 ^ 31) : ∃ j, j < n ∧ f_L_low v c = some (nI j) := by
  subst e
  obtain ⟨j, hj, e⟩ := pk_andE v (m := 2147483647) 31 (by first | rfl | decide)
  refine ⟨j % n, Nat.mod_lt _ h0, ?_⟩
  unfold f_L_low
  rw [if_neg (by rw [eq0 hn]; omega), e, pk_rem hj h0 hn]
theorem cell_u {L : Nat} (hL : L ≤ 260) (xs : Nat → Int32) {k : Nat} (hk : k < 2 ^ 30) : ∃ v, f_L_cell L xs (nI k) = some v := by
  unfold f_L_cell
  by_cases h : Int32.ofNat L ≤ nI k
  · exact ⟨_, if_pos h⟩
  · rw [if_neg h]
    have h2 : k < L := by
      have : ¬ nI L ≤ nI k := h
      rw [nI_leI (by omega) (by omega)] at this
      omega
    exact ⟨_, if_neg (nI_in h2 (by omega))⟩
theorem weak_u {v : Nat} (hv : v ≤ 100) : f_L_weak (nI v) = some (if v = 0 then 0 else if 60 ≤ v then 0 else 1) := by
  unfold f_L_weak
  simp only [le0 (show v < 2 ^ 31 by omega), li60, leN (show 60 < 2 ^ 31 by omega) (show v < 2 ^ 31 by omega)]
  split
  · rfl
  · split <;> rfl
section AL
variable {u : Nat → Nat} {a p w q d e t : Nat → Int32}
theorem read_u (h : AR u a p w q d e t) (hu : UOk u) {i : Nat} (hi : i < 48) : f_L_read w q t (nI i) = some (nI (rdN u i)) := by
  obtain ⟨-, -, e3, e4⟩ := h.1 i hi
  have t0 := h.2.2 0 (by omega)
  obtain ⟨h5, h6, h7⟩ := hu.W hi
  have h8 := hu.s0
  unfold f_L_read rdN
  simp only [nI_clamp (show i < 2 ^ 31 by omega), g_in2 (show i < 48 by omega) (by omega), tc0, tg0, tc1, tg1, tc2, tg2, tc3, tg3, tc4, tg4, tc5, tg5, tc6, tg6, tc7, tg7, tc8, tg8, tc9, tg9, ↓reduceIte, e3, e4, t0, wv_neg (show u (14 + 4 * i) < 2 ^ 30 by omega), ltN (show u (15 + 4 * i) < 2 ^ 31 by omega) (show u 0 < 2 ^ 31 by omega)]
  by_cases c0 : u (14 + 4 * i) = 0
  · rw [if_pos c0, if_pos (show u (15 + 4 * i) < u 0 by have := h6.mp c0; omega)]; rfl
  · rw [if_neg c0]; split <;> rfl
theorem free_u (h : AR u a p w q d e t) (hu : UOk u) {l m k : Nat} (hl : l < 3) (hm : m < 16) (hk : k < 2) : f_L_free a (nI l) (nI m) (nI k) = some (if frB u l m k = true then 1 else 0) := by
  obtain ⟨e1, -, -, -⟩ := h.1 (16 * l + m) (by omega)
  have h3 := (hu.A (show 16 * l + m < 48 by omega)).2.2
  unfold f_L_free frB
  simp only [ix16', nI_clamp (show 16 * l + m < 2 ^ 31 by omega), g_in2 (show 16 * l + m < 48 by omega) (by omega), ↓reduceIte, e1, wv_neg (show u (12 + 4 * (16 * l + m)) < 2 ^ 30 by omega), wv_eq (show u (12 + 4 * (16 * l + m)) < 2 ^ 30 by omega) (show k < 2 ^ 30 by omega), li2, wv_eq (show u (12 + 4 * (16 * l + m)) < 2 ^ 30 by omega) (show 2 < 2 ^ 30 by omega)]
  generalize u (12 + 4 * (16 * l + m)) = c at h3
  have hk' : k = 0 ∨ k = 1 := by omega
  have hc : c = 0 ∨ c = 1 ∨ c = 2 ∨ c = 3 := by omega
  rcases hk' with rfl | rfl <;> rcases hc with rfl | rfl | rfl | rfl <;> rfl
theorem par {c : Nat} (h : c ≤ 3) : nI c - nI c / 2 * 2 = nI (c % 2) := by
  rw [li2, pk_rem (by omega) (by omega) (by omega)]
theorem change_u (h : AR u a p w q d e t) (hu : UOk u) {f g m k : Nat} (hf : f < 3) (hg : g < 3) (hne : f ≠ g) (hm : m < 16) (hk : k < 2) : f_L_change a d (nI f) (nI g) (nI m) (nI k) = some (if okC u f g m k = true then 1 else 0) := by
  have key : ∀ l, l < 2 → l = (if g < f then g else f) → f_L_change_j13 a d (nI f) (nI g) (nI m) (nI k) (nI l) = some (if okC u f g m k = true then 1 else 0) := by
    intro l hl2 hl
    unfold f_L_change_j13 okC
    rw [← hl]
    obtain ⟨e1, -⟩ := h.2.1 (16 * l + m) (by omega)
    have h3 := (hu.D (show 16 * l + m < 32 by omega)).2.2
    have h4 := (hu.A (show 16 * g + m < 48 by omega)).2.2
    simp only [ix16', nI_clamp (show 16 * l + m < 2 ^ 31 by omega), g_in2 (show 16 * l + m < 32 by omega) (by omega), ↓reduceIte, free_u h hu hg hm hk, Option.bind_some, e1, par h3, eq0 (show u (204 + 2 * (16 * l + m)) % 2 < 2 ^ 31 by omega), li3, eqN (show u (204 + 2 * (16 * l + m)) < 2 ^ 31 by omega) (show 3 < 2 ^ 31 by omega), leN (show g < 2 ^ 31 by omega) (show f < 2 ^ 31 by omega)]
    unfold frB
    generalize u (204 + 2 * (16 * l + m)) = c at h3
    generalize u (12 + 4 * (16 * g + m)) = b at h4
    have hk' : k = 0 ∨ k = 1 := by omega
    have hc : c = 0 ∨ c = 1 ∨ c = 2 ∨ c = 3 := by omega
    have hb : b = 0 ∨ b = 1 ∨ b = 2 ∨ b = 3 := by omega
    by_cases hgf : g ≤ f
    · have h9 : ¬ f < g := by omega
      rcases hk' with rfl | rfl <;> rcases hb with rfl | rfl | rfl | rfl <;> rcases hc with rfl | rfl | rfl | rfl <;> simp [hgf, h9]
    · have h9 : f < g := by omega
      rcases hk' with rfl | rfl <;> rcases hb with rfl | rfl | rfl | rfl <;> rcases hc with rfl | rfl | rfl | rfl <;> simp [hgf, h9]
  unfold f_L_change
  simp only [leN (show f < 2 ^ 31 by omega) (show g < 2 ^ 31 by omega)]
  by_cases hfg : f ≤ g
  · rw [if_pos hfg]; exact key f (by omega) (by rw [if_neg (by omega)])
  · rw [if_neg hfg]; exact key g (by omega) (by rw [if_pos (by omega)])
end AL
