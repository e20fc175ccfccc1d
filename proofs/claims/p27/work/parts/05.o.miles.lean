/-! mile by mile -/
section LG
variable {u : Nat → Nat} {r : TX3s} {y : TX6s}
theorem out6 {i b d : Nat} {k133 k : (Int32 × TX6s) → Option (Int32 × TX6s)} {yy Y : TX6s} {jj : Int32} (h1 : ¬ nI i + 1 < jj) (h2 : f_X6_in jj 0 2 = some 0) : f_X6_fewestChanges_l145 (nI d) (nI b) k133 (nI i, yy) k (jj, Y) = k (jj + 2, Y) := by
  unfold f_X6_fewestChanges_l145 f_X6_fewestChanges_j194 f_X6_fewestChanges_j195
  rw [if_neg h1, h2]
  rfl
theorem end6 {i b d : Nat} {k133 k : (Int32 × TX6s) → Option (Int32 × TX6s)} {yy Y : TX6s} {jj : Int32} (h1 : nI i + 1 < jj) : f_X6_fewestChanges_l145 (nI d) (nI b) k133 (nI i, yy) k (jj, Y) = k133 (nI i + 1, Y) := by
  unfold f_X6_fewestChanges_l145
  rw [if_pos h1]
theorem round6 (hz : ZU u y.1) (hu : UOk u) {f : Nat → Int32} {c : Nat → Nat} {K : Nat} (hf : CB f c) (hc : bnd c K) (hK : K < 990) {b d : Nat} (hb : b < 16) (hd : d < 2) : ∃ f', (∀ k124 a124 y124, lpN (f_X6_fewestChanges_l133 (nI d) (nI b) k124 (a124, y124)) 3000 (0, setC y f) = k124 (a124 + 1, setC y f')) ∧ CB f' (rnd (okC u 0 1 b d) (okC u 1 0 b d) (okC u 1 2 b d) (okC u 2 1 b d) c) := by
  have B1 := rx_bnd (e := okC u 0 1 b d) (i := 0) (j := 1) hc (by omega) (by omega) (by omega)
  have B2 := rx_bnd (e := okC u 1 0 b d) (i := 1) (j := 0) B1 (by omega) (by omega) (by omega)
  have B3 := rx_bnd (e := okC u 1 2 b d) (i := 1) (j := 2) B2 (by omega) (by omega) (by omega)
  obtain ⟨f1, e1, h1⟩ := change6 hz hu hf hc (by omega) (show 0 < 3 by omega) (show 1 < 3 by omega) (by omega) hb hd
  obtain ⟨f2, e2, h2⟩ := change6 hz hu h1 B1 (by omega) (show 1 < 3 by omega) (show 0 < 3 by omega) (by omega) hb hd
  obtain ⟨f3, e3, h3⟩ := change6 hz hu h2 B2 (by omega) (show 1 < 3 by omega) (show 2 < 3 by omega) (by omega) hb hd
  obtain ⟨f4, e4, h4⟩ := change6 hz hu h3 B3 (by omega) (show 2 < 3 by omega) (show 1 < 3 by omega) (by omega) hb hd
  refine ⟨f4, ?_, h4⟩
  intro k124 a124 y124
  have s0 : ∀ k, f_X6_fewestChanges_l133 (nI d) (nI b) k124 (a124, y124) k (nI 0, setC y f) = k (nI 0 + 1, setC y f1) := by
    intro k
    unfold f_X6_fewestChanges_l133
    rw [if_neg (show ¬ (3 : Int32) ≤ nI 0 by decide)]
    show lpN (f_X6_fewestChanges_l145 (nI d) (nI b) k (nI 0, setC y f)) 3000 (nI 0 - 1, setC y f) = _
    rw [lp3000, out6 (by decide) (by decide), show nI 0 - 1 + 2 = nI 1 by decide, lp2999, e1, lp2998, end6 (by decide)]
  have s1 : ∀ k, f_X6_fewestChanges_l133 (nI d) (nI b) k124 (a124, y124) k (nI 1, setC y f1) = k (nI 1 + 1, setC y f3) := by
    intro k
    unfold f_X6_fewestChanges_l133
    rw [if_neg (show ¬ (3 : Int32) ≤ nI 1 by decide)]
    show lpN (f_X6_fewestChanges_l145 (nI d) (nI b) k (nI 1, setC y f1)) 3000 (nI 1 - 1, setC y f1) = _
    rw [show nI 1 - 1 = nI 0 by decide, lp3000, e2, show nI 0 + 2 = nI 2 by decide, lp2999, e3, lp2998, end6 (by decide)]
  have s2 : ∀ k, f_X6_fewestChanges_l133 (nI d) (nI b) k124 (a124, y124) k (nI 2, setC y f3) = k (nI 2 + 1, setC y f4) := by
    intro k
    unfold f_X6_fewestChanges_l133
    rw [if_neg (show ¬ (3 : Int32) ≤ nI 2 by decide)]
    show lpN (f_X6_fewestChanges_l145 (nI d) (nI b) k (nI 2, setC y f3)) 3000 (nI 2 - 1, setC y f3) = _
    rw [show nI 2 - 1 = nI 1 by decide, lp3000, e4, lp2999, out6 (by decide) (by decide), lp2998, end6 (by decide)]
  rw [show (0 : Int32) = nI 0 from rfl, lp3000, s0, show nI 0 + 1 = nI 1 by decide, lp2999, s1, show nI 1 + 1 = nI 2 by decide, lp2998, s2, show nI 2 + 1 = nI 3 by decide]
  rw [show lpN (f_X6_fewestChanges_l133 (nI d) (nI b) k124 (a124, y124)) 2997 = f_X6_fewestChanges_l133 (nI d) (nI b) k124 (a124, y124) (lpN (f_X6_fewestChanges_l133 (nI d) (nI b) k124 (a124, y124)) 2996) from rfl]
  unfold f_X6_fewestChanges_l133
  rw [if_pos (show (3 : Int32) ≤ nI 3 by decide)]
/-- entering a mile -/
def frB (u : Nat → Nat) (a b d : Nat) : Bool := !decide (d < 2 ∧ u (12 + 4 * (16 * a + b)) = 2 - d)
def ent (u : Nat → Nat) (b d : Nat) (c : Nat → Nat) : Nat → Nat := fun k => if frB u k b d = true then c k else 1000
theorem ent_bnd {b d K : Nat} {c : Nat → Nat} (h : bnd c K) : bnd (ent u b d c) K := by
  intro k hk
  unfold ent
  split
  · exact h k hk
  · exact Or.inl rfl
theorem free5 (hr : RdU u r) (hu : UOk u) {a b d : Nat} (ha : a < 3) (hb : b < 16) (hd : d < 3) : f_X3_isFree r (nI a) (nI b) (nI d) = some (if frB u a b d = true then 1 else 0) := by
  rw [isFree_u hr hu ha hb hd]
  unfold frB
  by_cases h : d < 2 ∧ u (12 + 4 * (16 * a + b)) = 2 - d
  · rw [if_pos h, decide_eq_true h]; rfl
  · rw [if_neg h, decide_eq_false h]; rfl
theorem free6 (hz : ZU u y.1) (hu : UOk u) {a b d : Nat} (ha : a < 3) (hb : b < 16) (hd : d < 3) : f_X6_isFree y (nI a) (nI b) (nI d) = some (if frB u a b d = true then 1 else 0) := by
  rw [isFree6_u hz hu ha hb hd]
  unfold frB
  by_cases h : d < 2 ∧ u (12 + 4 * (16 * a + b)) = 2 - d
  · rw [if_pos h, decide_eq_true h]; rfl
  · rw [if_neg h, decide_eq_false h]; rfl
theorem enter5 (hr : RdU u r) (hu : UOk u) {x : TX0s} {c : Nat → Nat} (hx : CA x c) {b d : Nat} (hb : b < 16) (hd : d < 2) : ∃ x', f_X0_enterMile x r (nI b) (nI d) = some x' ∧ CA x' (ent u b d c) := by
  unfold f_X0_enterMile
  obtain ⟨⟨a1, a2⟩, m, ⟨e1, e2⟩, q⟩ := lp_for1 (f_X0_enterMile_l3 r (nI b) (nI d)) (fun j a => a.1 = nI j ∧ ∀ k, k < 3 → a.2 k = nI (if k < j then ent u b d c k else c k)) 3 (by
    rintro j hj ⟨a1, a2⟩ ⟨e1, e2⟩
    simp only at e1 e2
    subst e1
    refine ⟨(nI (j + 1), if frB u j b d = true then a2 else upd a2 j 1000), ⟨rfl, fun k hk => ?_⟩, fun k => ?_⟩
    · have h2 := e2 k hk
      by_cases hf : frB u j b d = true
      · simp only [if_pos hf]
        rw [h2]
        by_cases hkj : k = j
        · subst hkj
          rw [if_neg (by omega), if_pos (by omega)]
          unfold ent
          rw [if_pos hf]
        · by_cases h3 : k < j
          · rw [if_pos h3, if_pos (by omega)]
          · rw [if_neg h3, if_neg (by omega)]
      · simp only [if_neg hf]
        by_cases hkj : k = j
        · subst hkj
          rw [upd_eq, if_pos (by omega)]
          unfold ent
          rw [if_neg hf]; rfl
        · rw [upd_ne hkj, h2]
          by_cases h3 : k < j
          · rw [if_pos h3, if_pos (by omega)]
          · rw [if_neg h3, if_neg (by omega)]
    · unfold f_X0_enterMile_l3
      rw [if_neg (by show ¬ (3 : Int32) ≤ nI j; rw [li3, nI_leI (by omega) (by omega)]; omega)]
      simp only [free5 hr hu hj hb (show d < 3 by omega), Option.bind_some, nI_clamp (show j < 2 ^ 31 by omega), g_in2 hj (by omega), ↓reduceIte, nI_1]
      by_cases hf : frB u j b d = true
      · simp only [if_pos hf, show ¬ (1 : Int32) = 0 by decide, ↓reduceIte]
      · simp only [if_neg hf, ↓reduceIte]) (a := (0, x)) ⟨rfl, fun k hk => by rw [if_neg (by omega)]; exact hx k hk⟩ (by omega)
  simp only at e1 e2
  subst e1
  refine ⟨a2, ?_, fun k hk => by rw [e2 k hk, if_pos hk]⟩
  rw [q]
  unfold f_X0_enterMile_l3
  rw [if_pos (show (3 : Int32) ≤ nI 3 by decide)]
theorem enter6 (hz : ZU u y.1) (hu : UOk u) {f : Nat → Int32} {c : Nat → Nat} (hf : CB f c) {b d : Nat} (hb : b < 16) (hd : d < 2) : ∃ f', (∀ k55 v55, lpN (f_X6_fewestChanges_l78 (nI d) k55 v55 (nI b)) 3000 (0, setC y f) = lpN (f_X6_fewestChanges_l124 (nI d) k55 v55 (nI b)) 3000 (0, setC y f')) ∧ CB f' (ent u b d c) := by
  have step : ∀ j, j < 3 → ∀ f : Nat → Int32, ∃ f', (∀ k, f' k = if k = j ∧ frB u j b d = false then -6 else f k) ∧ ∀ k55 v55 k, f_X6_fewestChanges_l78 (nI d) k55 v55 (nI b) k (nI j, setC y f) = k (nI (j + 1), setC y f') := by
    intro j hj f
    have hfree : f_X6_isFree (setC y f) (nI j) (nI b) (nI d) = some (if frB u j b d = true then 1 else 0) := free6 (y := setC y f) hz hu hj hb (by omega)
    refine ⟨if frB u j b d = true then upd f j (f j) else upd f j (-6), fun k => ?_, fun k55 v55 k => ?_⟩
    · by_cases h : frB u j b d = true
      · rw [if_pos h, if_neg (fun z => by rw [h] at z; exact absurd z.2 (by decide))]
        by_cases hk : k = j
        · subst hk; rw [upd_eq]
        · rw [upd_ne hk]
      · rw [if_neg h]
        by_cases hk : k = j
        · subst hk; rw [upd_eq, if_pos ⟨rfl, by simpa using h⟩]
        · rw [upd_ne hk, if_neg (fun z => hk z.1)]
    · unfold f_X6_fewestChanges_l78
      rw [if_neg (by show ¬ (3 : Int32) ≤ nI j; rw [li3, nI_leI (by omega) (by omega)]; omega)]
      have q1 : (setC y f).2.2.2.2.2.2.2.1 = f := rfl
      simp only [hfree, Option.bind_some, q1, nI_clamp (show j < 2 ^ 31 by omega), g_in2 hj (by omega), ↓reduceIte, nI_1]
      by_cases h : frB u j b d = true
      · simp only [if_pos h, show ¬ (1 : Int32) = 0 by decide, ↓reduceIte]
        rfl
      · simp only [if_neg h, ↓reduceIte]
        rfl
  obtain ⟨f1, p1, q1⟩ := step 0 (by omega) f
  obtain ⟨f2, p2, q2⟩ := step 1 (by omega) f1
  obtain ⟨f3, p3, q3⟩ := step 2 (by omega) f2
  refine ⟨f3, fun k55 v55 => ?_, fun k hk => ?_⟩
  · rw [show (0 : Int32) = nI 0 from rfl, lp3000 (f_X6_fewestChanges_l78 (nI d) k55 v55 (nI b)), q1, lp2999, q2, lp2998, q3]
    rw [show lpN (f_X6_fewestChanges_l78 (nI d) k55 v55 (nI b)) 2997 = f_X6_fewestChanges_l78 (nI d) k55 v55 (nI b) (lpN (f_X6_fewestChanges_l78 (nI d) k55 v55 (nI b)) 2996) from rfl]
    unfold f_X6_fewestChanges_l78
    rw [if_pos (show (3 : Int32) ≤ nI (2 + 1) by decide)]
    rfl
  · have hb2 : frB u k b d = true ∨ frB u k b d = false := by cases frB u k b d <;> simp
    have h : f3 k = if frB u k b d = true then f k else -6 := by
      rw [p3, p2, p1]
      have h : k = 0 ∨ k = 1 ∨ k = 2 := by omega
      rcases h with rfl | rfl | rfl <;> rcases hb2 with e | e <;> simp [e]
    rw [h, hf k hk]
    unfold ent
    split
    · rfl
    · rfl
/-- a mile, in the class and in the reference -/
def mlC (u : Nat → Nat) (b d : Nat) (c : Nat → Nat) : Nat → Nat := rnd (okC u 0 1 b d) (okC u 1 0 b d) (okC u 1 2 b d) (okC u 2 1 b d) (rnd (okC u 0 1 b d) (okC u 1 0 b d) (okC u 1 2 b d) (okC u 2 1 b d) (rnd (okC u 0 1 b d) (okC u 1 0 b d) (okC u 1 2 b d) (okC u 2 1 b d) (ent u b d c)))
theorem mlC_bnd {b d K : Nat} {c : Nat → Nat} (h : bnd c K) (hK : K < 900) : bnd (mlC u b d c) (K + 12) :=
  rnd_bnd (rnd_bnd (rnd_bnd (ent_bnd h) (by omega)) (by omega)) (by omega)
theorem mileC5 (hr : RdU u r) (hu : UOk u) {x : TX0s} {c : Nat → Nat} {K : Nat} (hx : CA x c) (hc : bnd c K) (hK : K < 900) {b d : Nat} (hb : b < 16) (hd : d < 2) : ∃ x', (∀ k38 i, f_X0_driveAlong_j59 r (nI d) k38 (i, x) (nI b) = k38 (i + 1, x')) ∧ CA x' (mlC u b d c) := by
  obtain ⟨x1, e1, h1⟩ := enter5 hr hu hx hb hd
  obtain ⟨x2, e2, h2⟩ := lanes5 hr hu h1 (ent_bnd hc) (by omega) hb hd
  refine ⟨x2, fun k38 i => ?_, fun k hk => ?_⟩
  · unfold f_X0_driveAlong_j59
    rw [e1, Option.bind_some, e2, Option.bind_some]
  · rw [h2 k hk, rnd3 hk]; rfl
theorem mileC6 (hz : ZU u y.1) (hu : UOk u) {f : Nat → Int32} {c : Nat → Nat} {K : Nat} (hf : CB f c) (hc : bnd c K) (hK : K < 900) {b d : Nat} (hb : b < 16) (hd : d < 2) : ∃ f', (∀ k55 i, f_X6_fewestChanges_j73 (nI d) k55 (i, setC y f) (nI b) = k55 (i + 1, setC y f')) ∧ CB f' (mlC u b d c) := by
  obtain ⟨f0, e0, h0⟩ := enter6 hz hu hf hb hd
  obtain ⟨f1, e1, h1⟩ := round6 hz hu h0 (ent_bnd hc) (by omega) hb hd
  obtain ⟨f2, e2, h2⟩ := round6 hz hu h1 (rnd_bnd (ent_bnd hc) (by omega)) (by omega) hb hd
  obtain ⟨f3, e3, h3⟩ := round6 hz hu h2 (rnd_bnd (rnd_bnd (ent_bnd hc) (by omega)) (by omega)) (by omega) hb hd
  refine ⟨f3, fun k55 i => ?_, h3⟩
  unfold f_X6_fewestChanges_j73
  show lpN (f_X6_fewestChanges_l78 (nI d) k55 (i, setC y f) (nI b)) 3000 (0, setC y f) = _
  rw [e0]
  have s : ∀ j, j < 3 → ∀ g g', (∀ k124 a124 y124, lpN (f_X6_fewestChanges_l133 (nI d) (nI b) k124 (a124, y124)) 3000 (0, setC y g) = k124 (a124 + 1, setC y g')) → ∀ k, f_X6_fewestChanges_l124 (nI d) k55 (i, setC y f) (nI b) k (nI j, setC y g) = k (nI (j + 1), setC y g') := by
    intro j hj g g' he k
    unfold f_X6_fewestChanges_l124
    rw [if_neg (by show ¬ (3 : Int32) ≤ nI j; rw [li3, nI_leI (by omega) (by omega)]; omega)]
    rw [he, nI_1]
  rw [show (0 : Int32) = nI 0 from rfl, lp3000, s 0 (by omega) _ _ e1, lp2999, s 1 (by omega) _ _ e2, lp2998, s 2 (by omega) _ _ e3]
  rw [show lpN (f_X6_fewestChanges_l124 (nI d) k55 (i, setC y f) (nI b)) 2997 = f_X6_fewestChanges_l124 (nI d) k55 (i, setC y f) (nI b) (lpN (f_X6_fewestChanges_l124 (nI d) k55 (i, setC y f) (nI b)) 2996) from rfl]
  unfold f_X6_fewestChanges_l124
  rw [if_pos (show (3 : Int32) ≤ nI (2 + 1) by decide)]
end LG
