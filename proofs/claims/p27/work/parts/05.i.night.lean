/-! a night's work -/
/-- the places of a mile's signs, in the order of the night -/
def pl (b k : Nat) : Nat := if k < 3 then 14 + 4 * (16 * k + b) else if k < 6 then 12 + 4 * (16 * (k - 3) + b) else 204 + 2 * (16 * (k - 6) + b)
def nfS (lim : Nat) (s : (Nat → Nat) × Nat) (p : Nat) : (Nat → Nat) × Nat := if wkN s.1 p = 1 ∧ s.2 < lim then (set2 s.1 p (s.1 p) 100, s.2 + 1) else s
def nf (lim b : Nat) (s : (Nat → Nat) × Nat) : Nat → (Nat → Nat) × Nat
  | 0 => s
  | k + 1 => nfS lim (nf lim b s k) (pl b k)
theorem nf_stop {lim b : Nat} {s : (Nat → Nat) × Nat} {k : Nat} (h : lim ≤ (nf lim b s k).2) : ∀ j, nf lim b s (k + j) = nf lim b s k := by
  intro j
  induction j with
  | zero => rfl
  | succ j ih =>
    rw [← Nat.add_assoc, nf, ih, nfS, if_neg (by omega)]
theorem nf_le {lim b : Nat} {s : (Nat → Nat) × Nat} (h : s.2 ≤ lim) (k : Nat) : (nf lim b s k).2 ≤ lim := by
  induction k with
  | zero => exact h
  | succ k ih =>
    rw [nf, nfS]
    split
    · simp only; omega
    · exact ih
theorem nf_mono {lim b : Nat} {s : (Nat → Nat) × Nat} (k j : Nat) : (nf lim b s k).2 ≤ (nf lim b s (k + j)).2 := by
  induction j with
  | zero => exact Nat.le_refl _
  | succ j ih =>
    rw [← Nat.add_assoc, nf, nfS]
    split
    · simp only; omega
    · exact ih
theorem pl_12 {b k : Nat} : 12 ≤ pl b k := by
  unfold pl
  split
  · omega
  · split <;> omega
theorem nf_low {lim b : Nat} {s : (Nat → Nat) × Nat} (k : Nat) {i : Nat} (hi : i < 12) : (nf lim b s k).1 i = s.1 i := by
  induction k with
  | zero => rfl
  | succ k ih =>
    have h := @pl_12 b k
    rw [nf, nfS]
    split
    · show set2 _ _ _ _ i = _
      rw [set2_n (k := i) (by omega) (by omega)]; exact ih
    · exact ih
theorem wkN_1 {u : Nat → Nat} {p : Nat} (h : wkN u p = 1) : u p ≠ 0 := by
  intro e
  unfold wkN at h
  rw [if_pos e] at h
  omega
theorem wkN_01 {u : Nat → Nat} {p : Nat} : wkN u p = 0 ∨ wkN u p = 1 := by
  unfold wkN
  split
  · exact Or.inl rfl
  · split
    · exact Or.inl rfl
    · exact Or.inr rfl
theorem repaint_u (P : (Nat → Nat) → TX4s → Prop) {lim b rows k0 : Nat} {s0 : (Nat → Nat) × Nat} (hrow : rows ≤ 3) (hlim : lim ≤ 100)
    (hR : ∀ u s, P u s → s.2.1 = nI rows)
    (hF : ∀ u s j, P u s → j < rows → f_X4_isFaded s (nI j) (nI b) = some (nI (wkN u (pl b (k0 + j)))))
    (hP : ∀ u s j, P u s → j < rows → wkN u (pl b (k0 + j)) = 1 → ((nI j * 16 + nI b < 0 ∨ s.1 ≤ (nI j * 16 + nI b).toNatClampNeg) = False) ∧ P (set2 u (pl b (k0 + j)) (u (pl b (k0 + j))) 100) (s.1, s.2.1, s.2.2.1, upd s.2.2.2 (nI j * 16 + nI b).toNatClampNeg 100))
    {s : TX4s} (h0 : P (nf lim b s0 k0).1 s) (hA : (nf lim b s0 k0).2 ≤ lim) : ∃ s', f_X4_repaintFaded s (nI b) (nI (lim - (nf lim b s0 k0).2)) = some (nI ((nf lim b s0 (k0 + rows)).2 - (nf lim b s0 k0).2), s') ∧ P (nf lim b s0 (k0 + rows)).1 s' := by
  unfold f_X4_repaintFaded
  refine lpN_rule (f_X4_repaintFaded_l5 (nI b) (nI (lim - (nf lim b s0 k0).2))) (fun _ res => ∃ s', res = some (nI ((nf lim b s0 (k0 + rows)).2 - (nf lim b s0 k0).2), s') ∧ P (nf lim b s0 (k0 + rows)).1 s') (fun a => ∃ j, j ≤ rows ∧ a.2.1 = nI j ∧ a.1 = nI ((nf lim b s0 (k0 + j)).2 - (nf lim b s0 k0).2) ∧ P (nf lim b s0 (k0 + j)).1 a.2.2) (fun a => 3 - a.2.1.toNatClampNeg) ?_ 3000 (0, 0, s) ⟨0, by omega, rfl, by rw [Nat.add_zero, Nat.sub_self]; rfl, h0⟩ (by omega)
  rintro k ⟨a1, a2, a3⟩ ⟨j, hj, e2, e1, e3⟩ hk
  simp only at e1 e2 e3
  subst e1 e2
  have m1 := nf_mono (lim := lim) (b := b) (s := s0) k0 j
  have m2 : (nf lim b s0 (k0 + j)).2 ≤ lim := by
    have h : ∀ i, (nf lim b s0 (k0 + i)).2 ≤ lim := by
      intro i
      induction i with
      | zero => exact hA
      | succ i ih =>
        rw [← Nat.add_assoc, nf, nfS]
        split
        · simp only; omega
        · exact ih
    exact h j
  unfold f_X4_repaintFaded_l5
  simp only [hR _ _ e3, leN (show rows < 2 ^ 31 by omega) (show j < 2 ^ 31 by omega), leN (show lim - (nf lim b s0 k0).2 < 2 ^ 31 by omega) (show (nf lim b s0 (k0 + j)).2 - (nf lim b s0 k0).2 < 2 ^ 31 by omega)]
  by_cases h1 : rows ≤ j
  · rw [if_pos h1, show rows = j by omega]
    exact ⟨a3, rfl, e3⟩
  · rw [if_neg h1]
    by_cases h2 : lim - (nf lim b s0 k0).2 ≤ (nf lim b s0 (k0 + j)).2 - (nf lim b s0 k0).2
    · rw [if_pos h2]
      have h3 := nf_stop (lim := lim) (b := b) (s := s0) (k := k0 + j) (by omega) (rows - j)
      rw [show k0 + j + (rows - j) = k0 + rows by omega] at h3
      rw [h3]
      exact ⟨a3, rfl, e3⟩
    · rw [if_neg h2, hF _ _ j e3 (by omega)]
      have hn : nf lim b s0 (k0 + (j + 1)) = nfS lim (nf lim b s0 (k0 + j)) (pl b (k0 + j)) := rfl
      rcases @wkN_01 (nf lim b s0 (k0 + j)).1 (pl b (k0 + j)) with h4 | h4
      · rw [h4, Option.bind_some, if_pos (by decide)]
        rw [nfS, if_neg (by omega)] at hn
        refine hk _ ⟨j + 1, by omega, nI_1 j, by rw [hn], by rw [hn]; exact e3⟩ ?_
        show 3 - (nI j + 1).toNatClampNeg < 3 - (nI j).toNatClampNeg
        rw [nI_1, nI_clamp (by omega), nI_clamp (by omega)]; omega
      · obtain ⟨g1, g2⟩ := hP _ _ j e3 (by omega) h4
        rw [hR _ _ e3] at g2
        rw [h4, Option.bind_some, if_neg (by decide)]
        simp only [g1, ↓reduceIte]
        rw [nfS, if_pos ⟨h4, by omega⟩] at hn
        refine hk _ ⟨j + 1, by omega, nI_1 j, ?_, by rw [hn]; exact g2⟩ ?_
        · rw [hn]
          show nI _ + 1 = _
          rw [nI_1]
          simp only
          rw [show (nf lim b s0 (k0 + j)).2 + 1 - (nf lim b s0 k0).2 = (nf lim b s0 (k0 + j)).2 - (nf lim b s0 k0).2 + 1 by omega]
        · show 3 - (nI j + 1).toNatClampNeg < 3 - (nI j).toNatClampNeg
          rw [nI_1, nI_clamp (by omega), nI_clamp (by omega)]; omega
section LN
variable {r : TX3s} {y : TX6s}
/-- the three kinds of signs at a mile -/
theorem repW {lim b : Nat} {s0 : (Nat → Nat) × Nat} (hb : b < 16) (hlim : lim ≤ 100) (hr : RdU (nf lim b s0 0).1 r) (hu : UOk (nf lim b s0 0).1) (hA : (nf lim b s0 0).2 ≤ lim) : ∃ s', f_X4_repaintFaded r.2.1 (nI b) (nI (lim - (nf lim b s0 0).2)) = some (nI ((nf lim b s0 3).2 - (nf lim b s0 0).2), s') ∧ RdU (nf lim b s0 3).1 (r.1, s', r.2.2) ∧ UOk (nf lim b s0 3).1 := by
  refine repaint_u (fun u s => RdU u (r.1, s, r.2.2) ∧ UOk u) (rows := 3) (k0 := 0) (by omega) hlim (fun u s h => h.1.2.1.2.1) ?_ ?_ ⟨hr, hu⟩ hA
  · rintro u s j ⟨h1, h2⟩ hj
    rw [isFaded_u h1.2.1 h2.2.1 (by omega) (show 16 * j + b < 48 by omega), show pl b (0 + j) = 14 + 4 * (16 * j + b) by unfold pl; rw [if_pos (by omega), Nat.zero_add]]
  · rintro u s j ⟨h1, h2⟩ hj hw
    rw [show pl b (0 + j) = 14 + 4 * (16 * j + b) by unfold pl; rw [if_pos (by omega), Nat.zero_add]] at hw ⊢
    have g := h2.2.1 (16 * j + b) (by omega)
    have hs := h1.2.1
    rw [ix16, nI_clamp (show 16 * j + b < 2 ^ 31 by omega)]
    refine ⟨?_, ?_, h2.setW (by omega) (by omega) g.2.2 (by have := wkN_1 hw; omega)⟩
    · have e : s.1 = 48 := hs.1
      rw [e]; exact g_in2 (by omega) (by omega)
    · exact h1.setW (by omega) rfl rfl (fun i hi hji => rfl) (fun i hi hji => upd_ne hji) (fun hc => (hs.2.2 _ (by omega)).2 hc) upd_eq
theorem repA {lim b : Nat} {s0 : (Nat → Nat) × Nat} (hb : b < 16) (hlim : lim ≤ 100) (hr : RdU (nf lim b s0 3).1 r) (hu : UOk (nf lim b s0 3).1) (hA : (nf lim b s0 3).2 ≤ lim) : ∃ s', f_X4_repaintFaded r.1 (nI b) (nI (lim - (nf lim b s0 3).2)) = some (nI ((nf lim b s0 6).2 - (nf lim b s0 3).2), s') ∧ RdU (nf lim b s0 6).1 (s', r.2) ∧ UOk (nf lim b s0 6).1 := by
  refine repaint_u (fun u s => RdU u (s, r.2) ∧ UOk u) (rows := 3) (k0 := 3) (by omega) hlim (fun u s h => h.1.1.2.1) ?_ ?_ ⟨hr, hu⟩ hA
  · rintro u s j ⟨h1, h2⟩ hj
    rw [isFaded_u h1.1 h2.1 (by omega) (show 16 * j + b < 48 by omega), show pl b (3 + j) = 12 + 4 * (16 * j + b) by unfold pl; rw [if_neg (by omega), if_pos (by omega), show 3 + j - 3 = j by omega]]
  · rintro u s j ⟨h1, h2⟩ hj hw
    rw [show pl b (3 + j) = 12 + 4 * (16 * j + b) by unfold pl; rw [if_neg (by omega), if_pos (by omega), show 3 + j - 3 = j by omega]] at hw ⊢
    have g := h2.1 (16 * j + b) (by omega)
    have hs := h1.1
    rw [ix16, nI_clamp (show 16 * j + b < 2 ^ 31 by omega)]
    refine ⟨?_, ?_, h2.setA (by omega) (by omega) g.2.2 (by have := wkN_1 hw; omega)⟩
    · have e : s.1 = 48 := hs.1
      rw [e]; exact g_in2 (by omega) (by omega)
    · exact h1.setA (by omega) rfl rfl (fun i hi hji => rfl) (fun i hi hji => upd_ne hji) (fun hc => (hs.2.2 _ (by omega)).2 hc) upd_eq
theorem repD {lim b : Nat} {s0 : (Nat → Nat) × Nat} (hb : b < 16) (hlim : lim ≤ 100) (hr : RdU (nf lim b s0 6).1 r) (hu : UOk (nf lim b s0 6).1) (hA : (nf lim b s0 6).2 ≤ lim) : ∃ s', f_X4_repaintFaded r.2.2.1 (nI b) (nI (lim - (nf lim b s0 6).2)) = some (nI ((nf lim b s0 8).2 - (nf lim b s0 6).2), s') ∧ RdU (nf lim b s0 8).1 (r.1, r.2.1, s', r.2.2.2) ∧ UOk (nf lim b s0 8).1 := by
  refine repaint_u (fun u s => RdU u (r.1, r.2.1, s, r.2.2.2) ∧ UOk u) (rows := 2) (k0 := 6) (by omega) hlim (fun u s h => h.1.2.2.1.2.1) ?_ ?_ ⟨hr, hu⟩ hA
  · rintro u s j ⟨h1, h2⟩ hj
    rw [isFaded_u h1.2.2.1 h2.2.2.1 (by omega) (show 16 * j + b < 32 by omega), show pl b (6 + j) = 204 + 2 * (16 * j + b) by unfold pl; rw [if_neg (by omega), if_neg (by omega), show 6 + j - 6 = j by omega]]
  · rintro u s j ⟨h1, h2⟩ hj hw
    rw [show pl b (6 + j) = 204 + 2 * (16 * j + b) by unfold pl; rw [if_neg (by omega), if_neg (by omega), show 6 + j - 6 = j by omega]] at hw ⊢
    have g := h2.2.2.1 (16 * j + b) (by omega)
    have hs := h1.2.2.1
    rw [ix16, nI_clamp (show 16 * j + b < 2 ^ 31 by omega)]
    refine ⟨?_, ?_, h2.setD (by omega) (by omega) g.2.2 (by have := wkN_1 hw; omega)⟩
    · have e : s.1 = 32 := hs.1
      rw [e]; exact g_in2 (by omega) (by omega)
    · exact h1.setD (by omega) rfl rfl (fun i hi hji => rfl) (fun i hi hji => upd_ne hji) (fun hc => (hs.2.2 _ (by omega)).2 hc) upd_eq
/-- a mile of the night, in the class -/
theorem mile5 {lim b : Nat} {s0 : (Nat → Nat) × Nat} (hb : b < 16) (hlim : lim ≤ 100) (hr : RdU s0.1 r) (hu : UOk s0.1) (hA : s0.2 ≤ lim) : ∃ r', f_X3_repaintMile r (nI b) (nI lim - nI s0.2) = some (nI ((nf lim b s0 8).2 - s0.2), r') ∧ RdU (nf lim b s0 8).1 r' ∧ UOk (nf lim b s0 8).1 ∧ r'.2.2.2 = r.2.2.2 := by
  have m1 := nf_mono (lim := lim) (b := b) (s := s0) 0 3
  have m2 := nf_mono (lim := lim) (b := b) (s := s0) 3 3
  have m3 := nf_mono (lim := lim) (b := b) (s := s0) 6 2
  have l3 := nf_le (b := b) hA 3
  have l6 := nf_le (b := b) hA 6
  have l8 := nf_le (b := b) hA 8
  have e0 : (nf lim b s0 0) = s0 := rfl
  rw [e0] at m1
  simp only [show 0 + 3 = 3 by omega, show 3 + 3 = 6 by omega, show 6 + 2 = 8 by omega] at m1 m2 m3
  obtain ⟨s1, q1, hr1, hu1⟩ := repW (r := r) (s0 := s0) hb hlim hr hu hA
  obtain ⟨s2, q2, hr2, hu2⟩ := repA hb hlim hr1 hu1 l3
  obtain ⟨s3, q3, hr3, hu3⟩ := repD hb hlim hr2 hu2 l6
  rw [e0] at q1
  unfold f_X3_repaintMile
  rw [pk_sub hA, q1]
  simp only [Option.bind_some]
  rw [pk_sub (by omega), show lim - s0.2 - ((nf lim b s0 3).2 - s0.2) = lim - (nf lim b s0 3).2 by omega, q2]
  simp only [Option.bind_some, nI_add]
  rw [pk_sub (by omega), show lim - s0.2 - ((nf lim b s0 3).2 - s0.2 + ((nf lim b s0 6).2 - (nf lim b s0 3).2)) = lim - (nf lim b s0 6).2 by omega, q3]
  simp only [Option.bind_some, nI_add]
  rw [show (nf lim b s0 3).2 - s0.2 + ((nf lim b s0 6).2 - (nf lim b s0 3).2) + ((nf lim b s0 8).2 - (nf lim b s0 6).2) = (nf lim b s0 8).2 - s0.2 by omega]
  exact ⟨_, rfl, hr3, hu3, rfl⟩
/-- the reference's numbers in the night -/
def ZN (u : Nat → Nat) (cans A : Nat) (z : Nat → Int32) : Prop := (∀ k, k < 268 → (k < 5 ∨ 12 ≤ k) → z k = nI (u k)) ∧ z 5 = nI (cans - A)
theorem signAt_n {b k : Nat} (hk : k < 8) : f_X6_signAt (nI b) (nI k) = some (nI (pl b k)) := by
  unfold f_X6_signAt pl
  simp only [show (3 : Int32) = nI 3 from rfl, show (6 : Int32) = nI 6 from rfl, show (2 : Int32) = nI 2 from rfl, leN (show 3 < 2 ^ 31 by omega) (show k < 2 ^ 31 by omega), leN (show 6 < 2 ^ 31 by omega) (show k < 2 ^ 31 by omega)]
  by_cases h3 : k < 3
  · rw [if_neg (by omega), if_pos h3, cellAt_n, Option.bind_some, nI_add, show 12 + 4 * (16 * k + b) + 2 = 14 + 4 * (16 * k + b) by omega]
  · rw [if_pos (by omega), if_neg h3]
    by_cases h6 : k < 6
    · rw [if_neg (by omega), if_pos h6, pk_sub (by omega), cellAt_n, Option.bind_some]
    · rw [if_pos (by omega), if_neg h6, pk_sub (by omega), lineAt_n, Option.bind_some]
theorem pl_le {b k : Nat} (hb : b < 16) (hk : k < 8) : pl b k + 1 < 268 := by
  unfold pl
  split
  · omega
  · split <;> omega
theorem pl_ok {u : Nat → Nat} (hu : UOk u) {b k : Nat} (hb : b < 16) (hk : k < 8) : u (pl b k + 1) ≤ 100 ∧ (u (pl b k) = 0 ↔ u (pl b k + 1) = 0) ∧ u (pl b k) ≤ 4 := by
  unfold pl
  split
  · exact hu.2.1 _ (by omega)
  · split
    · have h := hu.1 (16 * (k - 3) + b) (by omega)
      exact ⟨h.1, h.2.1, by omega⟩
    · have h := hu.2.2.1 (16 * (k - 6) + b) (by omega)
      exact ⟨h.1, h.2.1, by omega⟩
theorem isWeak_u {u : Nat → Nat} {z : Nat → Int32} {p : Nat} (hp : p + 1 < 268) (h0 : y.1 p = nI (u p)) (h1 : y.1 (p + 1) = nI (u (p + 1))) (h2 : u p ≤ 100) (h3 : u (p + 1) ≤ 100) : f_X6_isWeak y (nI p) = some (nI (wkN u p)) := by
  unfold f_X6_isWeak wkN
  simp only [nI_1, nI_clamp (show p < 2 ^ 31 by omega), nI_clamp (show p + 1 < 2 ^ 31 by omega), g_in2 (show p < 268 by omega) (by omega), g_in2 hp (by omega), ↓reduceIte, h0, h1, le0 (show u p < 2 ^ 31 by omega), li60, leN (show 60 < 2 ^ 31 by omega) (show u (p + 1) < 2 ^ 31 by omega)]
  split
  · rfl
  · split <;> rfl
end LN
