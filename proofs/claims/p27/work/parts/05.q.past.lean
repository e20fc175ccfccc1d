/-! copies of roads; the past -/
theorem cpy_at {f h : Nat → Int32} {n k : Nat} (hk : k < n) : va_cpy f h 0 0 n k = f k := by
  unfold va_cpy
  simp [hk]
theorem copy4 {u : Nat → Nat} {n rw bs st off : Nat} {x y : TX4s} (h1 : x.1 = n) (h2 : x.2.1 = nI rw) (hs : SgU u n rw bs st off y) (hn : n ≤ 48) : ∃ s', f_X4_copyFrom x y = some s' ∧ SgU u n rw bs st off s' := by
  obtain ⟨g1, g2, g3⟩ := hs
  unfold f_X4_copyFrom
  obtain ⟨⟨a1, a2⟩, m, ⟨e1, e2, e3, e4⟩, q⟩ := lp_for1 (f_X4_copyFrom_l2 y) (fun j a => a.1 = nI j ∧ a.2.1 = n ∧ a.2.2.1 = nI rw ∧ ∀ i, i < j → a.2.2.2.1 i = y.2.2.1 i ∧ a.2.2.2.2 i = y.2.2.2 i) n (by
    rintro j hj ⟨a1, a2⟩ ⟨e1, e2, e3, e4⟩
    simp only at e1 e2 e3 e4
    subst e1
    refine ⟨(nI (j + 1), (a2.1, a2.2.1, upd a2.2.2.1 j (y.2.2.1 j), upd a2.2.2.2 j (y.2.2.2 j))), ⟨rfl, e2, e3, fun i hi => ?_⟩, fun k => ?_⟩
    · by_cases hij : i = j
      · subst hij
        exact ⟨upd_eq, upd_eq⟩
      · exact ⟨(upd_ne hij).trans (e4 i (by omega)).1, (upd_ne hij).trans (e4 i (by omega)).2⟩
    · unfold f_X4_copyFrom_l2
      have n1 : ¬ nI n ≤ nI j := by rw [nI_leI (by omega) (by omega)]; omega
      have n2 : (nI j < 0 ∨ n ≤ j) = False := g_in2 hj (by omega)
      simp only [e2, g1, n1, ↓reduceIte, nI_clamp (show j < 2 ^ 31 by omega), n2, nI_1]) (a := (0, x)) ⟨rfl, h1, h2, fun i hi => by omega⟩ (by omega)
  simp only at e1 e2 e3 e4
  subst e1
  refine ⟨a2, ?_, e2, e3, fun i hi => ?_⟩
  · rw [q]
    unfold f_X4_copyFrom_l2
    rw [if_pos (by show nI a2.1 ≤ nI n; rw [e2]; exact Int32.le_refl _)]
  · rw [(e4 i hi).1, (e4 i hi).2]
    exact g3 i hi
theorem RZ.ext {r : TX3s} {z z' : Nat → Int32} (h : RZ r z) (he : ∀ k, k < 268 → z' k = z k) : RZ r z' := by
  obtain ⟨u, hr, hz, hu, c6, c7, c8, c9⟩ := h
  refine ⟨u, hr, fun k hk hk2 => by rw [he k hk]; exact hz k hk hk2, hu, ?_, ?_, ?_, ?_⟩
  · rw [he 6 (by omega)]; exact c6
  · rw [he 7 (by omega)]; exact c7
  · rw [he 8 (by omega)]; exact c8
  · rw [he 9 (by omega)]; exact c9
theorem RZ.shp {r : TX3s} {z : Nat → Int32} (h : RZ r z) : Shp r := by
  obtain ⟨u, hr, hz, hu, _⟩ := h
  exact ⟨⟨hr.1.1, hr.1.2.1⟩, ⟨hr.2.1.1, hr.2.1.2.1⟩, ⟨hr.2.2.1.1, hr.2.2.1.2.1⟩⟩
theorem copy3 {x r : TX3s} {z : Nat → Int32} (hx : Shp x) (h : RZ r z) : ∃ x', f_X3_copyFrom x r = some x' ∧ RZ x' z ∧ x'.2.2.2.2.2.2.1 = r.2.2.2.2.2.2.1 := by
  obtain ⟨u, hr, hz, hu, c6, c7, c8, c9⟩ := h
  obtain ⟨s1, e1, h1⟩ := copy4 hx.1.1 hx.1.2 hr.1 (by omega)
  obtain ⟨s2, e2, h2⟩ := copy4 hx.2.1.1 hx.2.1.2 hr.2.1 (by omega)
  obtain ⟨s3, e3, h3⟩ := copy4 hx.2.2.1 hx.2.2.2 hr.2.2.1 (by omega)
  unfold f_X3_copyFrom
  rw [e1, e2, e3]
  refine ⟨_, rfl, ⟨u, ⟨h1, h2, h3, fun i hi => ?_, fun i hi => ?_, hr.2.2.2.2.2⟩, hz, hu, c6, c7, c8, c9⟩, rfl⟩
  · show va_cpy r.2.2.2.1 x.2.2.2.1 0 0 3 i = _
    rw [cpy_at hi]
    exact hr.2.2.2.1 i hi
  · show va_cpy r.2.2.2.2.1 x.2.2.2.2.1 0 0 2 i = _
    rw [cpy_at hi]
    exact hr.2.2.2.2.1 i hi
/-- the reference's past -/
def setP (y : TX6s) (p : Nat → Int32) (c : Int32) : TX6s := (y.1, p, c, y.2.2.2)
theorem put6 {y : TX6s} {p : Nat → Int32} {c : Nat} (hc : c < 5) : ∃ p', f_X6_record_j49 (setP y p (nI c)) = some (setP y p' (nI (c + 1))) ∧ (∀ i, 268 * c ≤ i → i < 268 * c + 268 → p' i = y.1 (i - 268 * c)) ∧ ∀ i, i < 268 * c → p' i = p i := by
  unfold f_X6_record_j49
  obtain ⟨⟨a1, a2⟩, m, ⟨e1, p', e2, e3, e4⟩, q⟩ := lp_for1 f_X6_record_l51 (fun j a => a.1 = nI j ∧ ∃ p', a.2 = setP y p' (nI c) ∧ (∀ i, 268 * c ≤ i → i < 268 * c + j → p' i = y.1 (i - 268 * c)) ∧ ∀ i, i < 268 * c → p' i = p i) 268 (by
    rintro j hj ⟨a1, a2⟩ ⟨e1, p', e2, e3, e4⟩
    simp only at e1 e2
    subst e1 e2
    refine ⟨(nI (j + 1), setP y (upd p' (c * 268 + j) (y.1 j)) (nI c)), ⟨rfl, _, rfl, fun i hi hi2 => ?_, fun i hi => ?_⟩, fun k => ?_⟩
    · by_cases hij : i = c * 268 + j
      · subst hij
        rw [upd_eq, show c * 268 + j - 268 * c = j by omega]
      · rw [upd_ne hij]
        exact e3 i hi (by omega)
    · rw [upd_ne (by omega)]
      exact e4 i hi
    · unfold f_X6_record_l51
      have q2 : (setP y p' (nI c)).2.2.1 = nI c := rfl
      have q3 : (setP y p' (nI c)).2.1 = p' := rfl
      have q4 : (setP y p' (nI c)).1 = y.1 := rfl
      rw [if_neg (by show ¬ (268 : Int32) ≤ nI j; rw [li268, nI_leI (by omega) (by omega)]; omega)]
      simp only [q2, q3, q4, li268, pk_mul, nI_add, nI_clamp (show j < 2 ^ 31 by omega), nI_clamp (show c * 268 + j < 2 ^ 31 by omega), g_in2 hj (by omega), g_in2 (show c * 268 + j < 1340 by omega) (by omega), ↓reduceIte, nI_1]
      rfl) (a := (0, setP y p (nI c))) ⟨rfl, p, rfl, fun i hi hi2 => by omega, fun i hi => rfl⟩ (by omega)
  simp only at e1 e2
  subst e1 e2
  rw [q]
  unfold f_X6_record_l51
  rw [if_pos (show (268 : Int32) ≤ nI 268 by decide)]
  refine ⟨p', ?_, e3, e4⟩
  show some (y.1, p', nI c + 1, y.2.2.2) = _
  rw [nI_1]; rfl
theorem rec6 {y : TX6s} {c : Nat} (hc : c ≤ 5) (hy : y.2.2.1 = nI c) : ∃ p', f_X6_record y = some (setP y p' (nI (if c = 5 then 5 else c + 1))) ∧ (∀ k, k < 268 → p' (268 * (if c = 5 then 4 else c) + k) = y.1 k) ∧ ∀ j k, j < (if c = 5 then 4 else c) → k < 268 → p' (268 * j + k) = y.2.1 (268 * (if c = 5 then j + 1 else j) + k) := by
  unfold f_X6_record
  by_cases h5 : c = 5
  · subst h5
    rw [if_pos (by rw [hy]; rfl)]
    obtain ⟨⟨a1, a2⟩, m, ⟨e1, p', e2, e3⟩, q⟩ := lp_for1 f_X6_record_l10 (fun j a => a.1 = nI j ∧ ∃ p', a.2 = setP y p' (nI 5) ∧ ∀ i, p' i = if i < j then y.2.1 (i + 268) else y.2.1 i) 1072 (by
      rintro j hj ⟨a1, a2⟩ ⟨e1, p', e2, e3⟩
      simp only at e1 e2
      subst e1 e2
      refine ⟨(nI (j + 1), setP y (upd p' j (p' (j + 268))) (nI 5)), ⟨rfl, _, rfl, fun i => ?_⟩, fun k => ?_⟩
      · by_cases hij : i = j
        · subst hij
          rw [upd_eq, e3, if_neg (by omega), if_pos (by omega)]
        · rw [upd_ne hij, e3]
          by_cases h : i < j
          · rw [if_pos h, if_pos (by omega)]
          · rw [if_neg h, if_neg (by omega)]
      · unfold f_X6_record_l10
        have q3 : (setP y p' (nI 5)).2.1 = p' := rfl
        rw [if_neg (by show ¬ (1072 : Int32) ≤ nI j; rw [li1072, nI_leI (by omega) (by omega)]; omega)]
        simp only [q3, li268, nI_add, nI_clamp (show j < 2 ^ 31 by omega), nI_clamp (show j + 268 < 2 ^ 31 by omega), g_in2 (show j < 1340 by omega) (by omega), g_in2 (show j + 268 < 1340 by omega) (by omega), ↓reduceIte, nI_1]
        rfl) (a := (0, y)) ⟨rfl, y.2.1, by rw [← hy]; rfl, fun i => by rw [if_neg (by omega)]⟩ (by omega)
    simp only at e1 e2
    subst e1 e2
    rw [q]
    unfold f_X6_record_l10
    rw [if_pos (show (1072 : Int32) ≤ nI 1072 by decide)]
    obtain ⟨p2, h1, h2, h3⟩ := put6 (y := y) (p := p') (c := 4) (by omega)
    refine ⟨p2, ?_, fun k hk => ?_, fun j k hj hk => ?_⟩
    · show f_X6_record_j49 (setP y p' (nI 5 - 1)) = _
      rw [show nI 5 - 1 = nI 4 by decide, h1]
      rfl
    · rw [if_pos rfl, h2 _ (by omega) (by omega), show 268 * 4 + k - 268 * 4 = k by omega]
    · rw [if_pos rfl] at hj
      rw [if_pos rfl, h3 _ (by omega), e3, if_pos (by omega), show 268 * j + k + 268 = 268 * (j + 1) + k by omega]
  · have hn : ¬ y.2.2.1 = 5 := by
      rw [hy, show (5 : Int32) = nI 5 from rfl, nI_eq (by omega) (by omega)]
      exact h5
    rw [if_neg hn]
    obtain ⟨p2, h1, h2, h3⟩ := put6 (y := y) (p := y.2.1) (c := c) (by omega)
    refine ⟨p2, ?_, fun k hk => ?_, fun j k hj hk => ?_⟩
    · rw [if_neg h5, ← h1, ← hy]
      rfl
    · rw [if_neg h5, h2 _ (by omega) (by omega), show 268 * c + k - 268 * c = k by omega]
    · rw [if_neg h5] at hj
      rw [if_neg h5, h3 _ (by omega)]
