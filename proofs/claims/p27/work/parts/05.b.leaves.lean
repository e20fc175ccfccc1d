/-! the leaves: the class's signs, the reference's places -/
theorem ix16 (a b : Nat) : nI a * 16 + nI b = nI (16 * a + b) := by rw [li16, pk_mul, nI_add, Nat.mul_comm]
theorem ix16' (a b : Nat) : 16 * nI a + nI b = nI (16 * a + b) := by rw [li16, pk_mul, nI_add]
theorem cellAt_n (a b : Nat) : f_X6_cellAt (nI a) (nI b) = some (nI (12 + 4 * (16 * a + b))) := by
  unfold f_X6_cellAt
  rw [ix16', li12, li4, pk_mul, nI_add]
theorem lineAt_n (a b : Nat) : f_X6_lineAt (nI a) (nI b) = some (nI (204 + 2 * (16 * a + b))) := by
  unfold f_X6_lineAt
  rw [ix16', li204, li2, pk_mul, nI_add]
theorem eq0 {a : Nat} (h : a < 2 ^ 31) : (nI a = 0) = (a = 0) := by rw [li0, nI_eq h (by omega)]
theorem le0 {a : Nat} (h : a < 2 ^ 31) : (nI a ≤ 0) = (a = 0) := by rw [li0, nI_leI h (by omega)]; exact propext ⟨fun h => by omega, fun h => by omega⟩
theorem ltz {a : Nat} (h : a < 2 ^ 31) : (nI a < 0) = False := eq_false (nI_pos h)
theorem eqN {a k : Nat} (h : a < 2 ^ 31) (hk : k < 2 ^ 31) : (nI a = nI k) = (a = k) := propext (nI_eq h hk)
theorem leN {a k : Nat} (h : a < 2 ^ 31) (hk : k < 2 ^ 31) : (nI a ≤ nI k) = (a ≤ k) := propext (nI_leI h hk)
theorem ltN {a k : Nat} (h : a < 2 ^ 31) (hk : k < 2 ^ 31) : (nI a < nI k) = (a < k) := propext (nI_ltI h hk)
section LV
variable {u : Nat → Nat} {n rw bs st off mx : Nat} {s : TX4s}
theorem kindOr_u (hs : SgU u n rw bs st off s) (hu : UG u n bs st mx) (hn : n ≤ 48) {a b : Nat} (hi : 16 * a + b < n) (d : Int32) : f_X4_kindOr s (nI a) (nI b) d = some (if u (bs + st * (16 * a + b)) = 0 then d else nI (u (bs + st * (16 * a + b)) - off)) := by
  obtain ⟨h1, h2, h3⟩ := hs
  obtain ⟨h4, h5⟩ := h3 _ hi
  obtain ⟨h6, h7, h8⟩ := hu _ hi
  unfold f_X4_kindOr
  simp only [ix16, h1, g_in2 hi (by omega), ↓reduceIte, nI_clamp (show 16 * a + b < 2 ^ 31 by omega), h4, le0 (show u (bs + st * (16 * a + b) + 1) < 2 ^ 31 by omega)]
  by_cases h0 : u (bs + st * (16 * a + b)) = 0
  · rw [if_pos (h7.mp h0), if_pos h0]
  · rw [if_neg (fun z => h0 (h7.mpr z)), if_neg h0, h5 h0]
theorem strengthAt_u (hs : SgU u n rw bs st off s) (hn : n ≤ 48) {a b : Nat} (hi : 16 * a + b < n) : f_X4_strengthAt s (nI a) (nI b) = some (nI (u (bs + st * (16 * a + b) + 1))) := by
  obtain ⟨h1, h2, h3⟩ := hs
  unfold f_X4_strengthAt
  simp only [ix16, h1, g_in2 hi (by omega), ↓reduceIte, nI_clamp (show 16 * a + b < 2 ^ 31 by omega), (h3 _ hi).1]
theorem isAt_u (hs : SgU u n rw bs st off s) (hu : UG u n bs st mx) (hn : n ≤ 48) {a b : Nat} (hi : 16 * a + b < n) : f_X4_isAt s (nI a) (nI b) = some (if u (bs + st * (16 * a + b)) = 0 then 0 else 1) := by
  obtain ⟨h1, h2, h3⟩ := hs
  obtain ⟨h6, h7, h8⟩ := hu _ hi
  unfold f_X4_isAt
  simp only [ix16, h1, g_in2 hi (by omega), ↓reduceIte, nI_clamp (show 16 * a + b < 2 ^ 31 by omega), (h3 _ hi).1, le0 (show u (bs + st * (16 * a + b) + 1) < 2 ^ 31 by omega)]
  by_cases h0 : u (bs + st * (16 * a + b)) = 0
  · rw [if_pos (h7.mp h0), if_pos h0]
  · rw [if_neg (fun z => h0 (h7.mpr z)), if_neg h0]
/-- a sign that a crew repaints -/
def wk (u : Nat → Nat) (p : Nat) : Prop := u p ≠ 0 ∧ u (p + 1) < 60
theorem wk_dec (u : Nat → Nat) (p : Nat) : wk u p ∨ ¬ wk u p := Classical.em _
def wkN (u : Nat → Nat) (p : Nat) : Nat := if u p = 0 then 0 else if 60 ≤ u (p + 1) then 0 else 1
theorem wkN_le {u : Nat → Nat} {p : Nat} : wkN u p ≤ 1 := by unfold wkN; split; omega; split <;> omega
theorem isFaded_u (hs : SgU u n rw bs st off s) (hu : UG u n bs st mx) (hn : n ≤ 48) {a b : Nat} (hi : 16 * a + b < n) : f_X4_isFaded s (nI a) (nI b) = some (nI (wkN u (bs + st * (16 * a + b)))) := by
  obtain ⟨h1, h2, h3⟩ := hs
  obtain ⟨h6, h7, h8⟩ := hu _ hi
  unfold f_X4_isFaded wkN
  simp only [ix16, h1, g_in2 hi (by omega), ↓reduceIte, nI_clamp (show 16 * a + b < 2 ^ 31 by omega), (h3 _ hi).1, le0 (show u (bs + st * (16 * a + b) + 1) < 2 ^ 31 by omega), li60, leN (show 60 < 2 ^ 31 by omega) (show u (bs + st * (16 * a + b) + 1) < 2 ^ 31 by omega)]
  by_cases h0 : u (bs + st * (16 * a + b)) = 0
  · rw [if_pos (h7.mp h0), if_pos h0]; rfl
  · rw [if_neg (fun z => h0 (h7.mpr z)), if_neg h0]
    split <;> rfl
theorem paint_u (hs : SgU u n rw bs st off s) (hn : n ≤ 48) {a b : Nat} (hi : 16 * a + b < n) (k : Int32) : f_X4_paint s (nI a) (nI b) k = some (s.1, s.2.1, upd s.2.2.1 (16 * a + b) k, upd s.2.2.2 (16 * a + b) 100) := by
  obtain ⟨h1, h2, h3⟩ := hs
  unfold f_X4_paint
  simp only [ix16, h1, g_in2 hi (by omega), ↓reduceIte, nI_clamp (show 16 * a + b < 2 ^ 31 by omega)]
theorem asNumber_n (k : Nat) (hk : k < 2 ^ 31) : f_X5_asNumber (nI k) = some (if k = 0 then 0 else 1) := by
  unfold f_X5_asNumber
  simp only [eq0 hk]
  split <;> rfl
theorem asNumber_0 : f_X5_asNumber 0 = some 0 := rfl
theorem asNumber_1 : f_X5_asNumber 1 = some 1 := rfl
/-- a sign gets weaker -/
theorem weaken_u (hs : SgU u n rw bs st off s) (hu : UG u n bs st mx) (hn : n ≤ 48) {a b : Nat} (hi : 16 * a + b < n) {l : Nat} (hl : l ≤ 1000) : f_X4_weaken s (nI a) (nI b) (nI l) = some (if u (bs + st * (16 * a + b)) = 0 then (0, s) else (if u (bs + st * (16 * a + b) + 1) - l = 0 then 1 else 0, (s.1, s.2.1, s.2.2.1, upd s.2.2.2 (16 * a + b) (nI (u (bs + st * (16 * a + b) + 1) - l))))) := by
  obtain ⟨h1, h2, h3⟩ := hs
  obtain ⟨h6, h7, h8⟩ := hu _ hi
  unfold f_X4_weaken
  simp only [ix16, h1, g_in2 hi (by omega), ↓reduceIte, nI_clamp (show 16 * a + b < 2 ^ 31 by omega), (h3 _ hi).1, eq0 (show u (bs + st * (16 * a + b) + 1) < 2 ^ 31 by omega), mx0 (show u (bs + st * (16 * a + b) + 1) < 2 ^ 30 by omega) (show l < 2 ^ 30 by omega), upd_eq, eq0 (show u (bs + st * (16 * a + b) + 1) - l < 2 ^ 31 by omega), asNumber_0, asNumber_1, Option.bind_some]
  by_cases h0 : u (bs + st * (16 * a + b)) = 0
  · rw [if_pos (h7.mp h0), if_pos h0]
  · rw [if_neg (fun z => h0 (h7.mpr z)), if_neg h0]
    by_cases h9 : u (bs + st * (16 * a + b) + 1) - l = 0
    · rw [if_pos h9, if_pos h9]
    · rw [if_neg h9, if_neg h9]
end LV
section LZ
variable {u : Nat → Nat} {y : TX6s}
theorem ZU.at {z : Nat → Int32} (h : ZU u z) {k : Nat} (hk : k < 268) (h2 : k < 6 ∨ 12 ≤ k) : z k = nI (u k) := h k hk h2
theorem loses_u (hz : ZU u y.1) {p l : Nat} (hp : 12 ≤ p) (hp2 : p + 1 < 268) (h1 : u (p + 1) ≤ 100) (h0 : u p ≤ 100) (h2 : u p = 0 ↔ u (p + 1) = 0) (hl : l ≤ 1000) : f_X6_loses y (nI p) (nI l) = some (if u p = 0 then (0, y) else if u (p + 1) - l = 0 then (1, (upd (upd y.1 (p + 1) 0) p 0, y.2)) else (0, (upd y.1 (p + 1) (nI (u (p + 1) - l)), y.2))) := by
  unfold f_X6_loses f_X6_loses_j44
  simp only [nI_1, g_in2 (show p < 268 by omega) (by omega), g_in2 hp2 (by omega), ↓reduceIte, nI_clamp (show p < 2 ^ 31 by omega), nI_clamp (show p + 1 < 2 ^ 31 by omega), hz.at (show p < 268 by omega) (Or.inr hp), hz.at hp2 (Or.inr (by omega)), eq0 (show u p < 2 ^ 31 by omega), leN (show u (p + 1) < 2 ^ 31 by omega) (show l < 2 ^ 31 by omega), upd_eq]
  by_cases e0 : u p = 0
  · rw [if_pos e0, if_pos e0]
  · rw [if_neg e0, if_neg e0]
    by_cases e1 : u (p + 1) ≤ l
    · rw [if_pos e1, if_pos (show u (p + 1) - l = 0 by omega)]
    · simp only [if_neg e1, pk_sub (show l ≤ u (p + 1) by omega), eq0 (show u (p + 1) - l < 2 ^ 31 by omega), if_neg (show ¬ u (p + 1) - l = 0 by omega)]
theorem signs_u {p c : Nat} (hp2 : p + 1 < 268) (hc : c < 2 ^ 31) : f_X6_signs y (nI p) (nI c) = some (nI c, (upd (upd y.1 p (nI c)) (p + 1) (nI (if c = 0 then 0 else 100)), y.2)) := by
  unfold f_X6_signs
  simp only [nI_1, g_in2 (show p < 268 by omega) (by omega), g_in2 hp2 (by omega), ↓reduceIte, nI_clamp (show p < 2 ^ 31 by omega), nI_clamp (show p + 1 < 2 ^ 31 by omega), eq0 hc]
  by_cases e0 : c = 0
  · rw [if_pos e0, if_pos e0]; rfl
  · rw [if_neg e0, if_neg e0]; rfl
theorem wayAt_u (hz : ZU u y.1) (hu : UOk u) {a b : Nat} (ha : a < 3) (hb : b < 16) : f_X6_wayAt y (nI a) (nI b) = some (if u (12 + 4 * (16 * a + b)) = 0 then -6 else nI (u (12 + 4 * (16 * a + b)) - 1)) := by
  have h3 := (hu.1 (16 * a + b) (by omega)).2.2
  unfold f_X6_wayAt
  simp only [cellAt_n, Option.bind_some, g_in2 (show 12 + 4 * (16 * a + b) < 268 by omega) (by omega), ↓reduceIte, nI_clamp (show 12 + 4 * (16 * a + b) < 2 ^ 31 by omega), hz.at (show 12 + 4 * (16 * a + b) < 268 by omega) (Or.inr (by omega)), eq0 (show u (12 + 4 * (16 * a + b)) < 2 ^ 31 by omega)]
  by_cases e0 : u (12 + 4 * (16 * a + b)) = 0
  · rw [if_pos e0, if_pos e0]
  · rw [if_neg e0, if_neg e0, li1, pk_sub (by omega)]
/-- whether a word can be read -/
def rdN (u : Nat → Nat) (i : Nat) : Nat := if u (15 + 4 * i) < u 0 then 0 else 1
theorem isRead_u (hz : ZU u y.1) (hu : UOk u) {a b : Nat} (ha : a < 3) (hb : b < 16) : f_X6_isRead y (nI a) (nI b) = some (nI (rdN u (16 * a + b))) := by
  have h3 := hu.2.1 (16 * a + b) (by omega)
  have h4 := hu.2.2.2.1
  obtain ⟨h5, h6, h7⟩ := h3
  unfold f_X6_isRead rdN
  simp only [cellAt_n, Option.bind_some, li2, li3, nI_add, show 12 + 4 * (16 * a + b) + 2 = 14 + 4 * (16 * a + b) by omega, show 12 + 4 * (16 * a + b) + 3 = 15 + 4 * (16 * a + b) by omega, g_in2 (show 14 + 4 * (16 * a + b) < 268 by omega) (by omega), g_in2 (show 15 + 4 * (16 * a + b) < 268 by omega) (by omega), g_0 (show 0 < 268 by omega), cl0, ↓reduceIte, nI_clamp (show 14 + 4 * (16 * a + b) < 2 ^ 31 by omega), nI_clamp (show 15 + 4 * (16 * a + b) < 2 ^ 31 by omega), hz.at (show 14 + 4 * (16 * a + b) < 268 by omega) (Or.inr (by omega)), hz.at (show 15 + 4 * (16 * a + b) < 268 by omega) (Or.inr (by omega)), hz.at (show 0 < 268 by omega) (Or.inl (by omega))]
  rw [show 14 + 4 * (16 * a + b) + 1 = 15 + 4 * (16 * a + b) by omega] at h5 h6
  simp only [le0 (show u (14 + 4 * (16 * a + b)) < 2 ^ 31 by omega), ltN (show u (15 + 4 * (16 * a + b)) < 2 ^ 31 by omega) (show u 0 < 2 ^ 31 by omega)]
  by_cases e0 : u (14 + 4 * (16 * a + b)) = 0
  · rw [if_pos e0, if_pos (show u (15 + 4 * (16 * a + b)) < u 0 by have := h6.mp e0; omega)]; rfl
  · rw [if_neg e0]
    split <;> rfl
theorem canRead_u {r : TX3s} (hr : RdU u r) (hu : UOk u) {a b : Nat} (ha : a < 3) (hb : b < 16) : f_X3_canRead r (nI a) (nI b) = some (nI (rdN u (16 * a + b))) := by
  obtain ⟨g1, g2, g3, g4, g5, g6⟩ := hr
  have h3 := hu.2.1 (16 * a + b) (by omega)
  have h4 := hu.2.2.2.1
  obtain ⟨h5, h6, h7⟩ := h3
  unfold f_X3_canRead rdN
  rw [strengthAt_u g2 (by omega) (show 16 * a + b < 48 by omega)]
  rw [show 14 + 4 * (16 * a + b) + 1 = 15 + 4 * (16 * a + b) by omega] at h5 h6 ⊢
  simp only [Option.bind_some, g_0 (show 0 < 2 by omega), cl0, ↓reduceIte, g5 0 (by omega), ltN (show u (15 + 4 * (16 * a + b)) < 2 ^ 31 by omega) (show u 0 < 2 ^ 31 by omega)]
  split <;> rfl
/-- what a cell loses in a day -/
def lsN (u : Nat → Nat) (a b : Nat) : Nat := if (u (14 + 4 * (16 * a + b)) = 1 ∨ u (14 + 4 * (16 * a + b)) = 2) ∧ ¬ u (15 + 4 * (16 * a + b)) < u 0 then u (2 + a) / 2 else u (2 + a)
theorem lossOf_u (hz : ZU u y.1) (hu : UOk u) {a b : Nat} (ha : a < 3) (hb : b < 16) : f_X6_lossOf y (nI a) (nI b) = some (nI (lsN u a b)) := by
  obtain ⟨h5, h6, h7⟩ := hu.2.1 (16 * a + b) (by omega)
  have ht := hu.2.2.2.2.2.1 a ha
  unfold f_X6_lossOf f_X6_lossOf_j23 f_X6_lossOf_j36 f_X6_lossOf_j37 lsN
  simp only [cellAt_n, Option.bind_some, li2, nI_add, isRead_u hz hu ha hb, show 12 + 4 * (16 * a + b) + 2 = 14 + 4 * (16 * a + b) by omega, g_in2 (show 14 + 4 * (16 * a + b) < 268 by omega) (by omega), g_in2 (show 2 + a < 268 by omega) (by omega), ↓reduceIte, nI_clamp (show 14 + 4 * (16 * a + b) < 2 ^ 31 by omega), nI_clamp (show 2 + a < 2 ^ 31 by omega), hz.at (show 14 + 4 * (16 * a + b) < 268 by omega) (Or.inr (by omega)), hz.at (show 2 + a < 268 by omega) (Or.inl (by omega)), pk_div (show u (2 + a) < 2 ^ 31 by omega) (show 0 < 2 by omega) (show 2 < 2 ^ 31 by omega)]
  simp only [eq0 (show rdN u (16 * a + b) < 2 ^ 31 by unfold rdN; split <;> omega), li1, eqN (show u (14 + 4 * (16 * a + b)) < 2 ^ 31 by omega) (show 1 < 2 ^ 31 by omega), eqN (show u (14 + 4 * (16 * a + b)) < 2 ^ 31 by omega) (show 2 < 2 ^ 31 by omega), show ¬ nI 1 = 0 by decide, ↓reduceIte]
  unfold rdN
  by_cases e1 : u (14 + 4 * (16 * a + b)) = 1 <;> by_cases e2 : u (14 + 4 * (16 * a + b)) = 2 <;> by_cases e3 : u (15 + 4 * (16 * a + b)) < u 0 <;> simp [e1, e2, e3] <;> first | omega | decide | rfl
theorem lossAt_u {r : TX3s} (hr : RdU u r) (hu : UOk u) {a b : Nat} (ha : a < 3) (hb : b < 16) : f_X3_lossAt r (nI a) (nI b) = some (nI (lsN u a b)) := by
  have hr0 := hr
  obtain ⟨g1, g2, g3, g4, g5, g6⟩ := hr
  obtain ⟨h5, h6, h7⟩ := hu.2.1 (16 * a + b) (by omega)
  have ht := hu.2.2.2.2.2.1 a ha
  have h40 := hu.2.2.2.1
  rw [show 14 + 4 * (16 * a + b) + 1 = 15 + 4 * (16 * a + b) by omega] at h5 h6
  unfold f_X3_lossAt f_X3_lossAt_j27 f_X3_lossAt_j28 lsN
  simp only [canRead_u hr0 hu ha hb, kindOr_u g2 hu.2.1 (show 48 ≤ 48 by omega) (show 16 * a + b < 48 by omega), Option.bind_some, g_in2 (show a < 3 by omega) (by omega), ↓reduceIte, nI_clamp (show a < 2 ^ 31 by omega), g4 a ha, li2, pk_div (show u (2 + a) < 2 ^ 31 by omega) (show 0 < 2 by omega) (show 2 < 2 ^ 31 by omega), eq0 (show rdN u (16 * a + b) < 2 ^ 31 by unfold rdN; split <;> omega)]
  unfold rdN
  by_cases e3 : u (15 + 4 * (16 * a + b)) < u 0
  · simp [e3]
  · have e0 : ¬ u (14 + 4 * (16 * a + b)) = 0 := fun z => by have := h6.mp z; omega
    simp only [if_neg e3, if_neg e0, li1, ltN (show 1 < 2 ^ 31 by omega) (show u (14 + 4 * (16 * a + b)) - 1 < 2 ^ 31 by omega), show ¬ nI 1 = 0 by decide, show ¬ 1 = 0 by decide, ↓reduceIte]
    by_cases e4 : u (14 + 4 * (16 * a + b)) = 1 ∨ u (14 + 4 * (16 * a + b)) = 2
    · rw [if_neg (show ¬ 1 < u (14 + 4 * (16 * a + b)) - 1 by omega), if_pos ⟨e4, e3⟩]
    · rw [if_pos (show 1 < u (14 + 4 * (16 * a + b)) - 1 by omega), if_neg (fun z => e4 z.1)]
end LZ
