/-! both begin alike -/
def u0 (k : Nat) : Nat := if k = 0 then 30 else if k = 1 then 12 else if k < 5 then 5 else if k = 5 then 20 else 0
theorem u0_6 {k : Nat} (h : 6 ≤ k) : u0 k = 0 := by
  unfold u0
  rw [if_neg (by omega), if_neg (by omega), if_neg (by omega), if_neg (by omega)]
theorem z_init (k : Nat) : iX6.1 k = nI (u0 k) := by
  by_cases h0 : k = 0
  · subst h0; rfl
  by_cases h1 : k = 1
  · subst h1; rfl
  by_cases h2 : k = 2
  · subst h2; rfl
  by_cases h3 : k = 3
  · subst h3; rfl
  by_cases h4 : k = 4
  · subst h4; rfl
  by_cases h5 : k = 5
  · subst h5; rfl
  rw [u0_6 (by omega)]
  show upd (upd (upd (upd (upd (upd (fun _ => (0 : Int32)) 0 30) 1 12) 5 20) 2 5) 3 5) 4 5 k = 0
  rw [upd_ne h4, upd_ne h3, upd_ne h2, upd_ne h5, upd_ne h1, upd_ne h0]
theorem shp_init : Shp iX3 := ⟨⟨rfl, rfl⟩, ⟨rfl, rfl⟩, ⟨rfl, rfl⟩⟩
theorem rz_init : RZ iX3 iX6.1 := by
  refine ⟨u0, ⟨⟨rfl, rfl, fun i hi => ⟨?_, fun h => absurd (u0_6 (by omega)) h⟩⟩, ⟨rfl, rfl, fun i hi => ⟨?_, fun h => absurd (u0_6 (by omega)) h⟩⟩, ⟨rfl, rfl, fun i hi => ⟨?_, fun h => absurd (u0_6 (by omega)) h⟩⟩, fun i hi => ?_, fun i hi => ?_, rfl⟩, fun k _ _ => z_init k, ⟨fun i hi => ?_, fun i hi => ?_, fun i hi => ?_, ⟨by decide, by decide⟩, ⟨by decide, by decide⟩, fun i hi => ?_, by decide⟩, (z_init 6).symm, (z_init 7).symm, (z_init 8).symm, (z_init 9).symm⟩
  · rw [u0_6 (by omega)]; rfl
  · rw [u0_6 (by omega)]; rfl
  · rw [u0_6 (by omega)]; rfl
  · have : i = 0 ∨ i = 1 ∨ i = 2 := by omega
    rcases this with rfl | rfl | rfl <;> rfl
  · have : i = 0 ∨ i = 1 := by omega
    rcases this with rfl | rfl <;> rfl
  · rw [u0_6 (by omega), u0_6 (by omega)]; exact ⟨by omega, Iff.rfl, by omega⟩
  · rw [u0_6 (by omega), u0_6 (by omega)]; exact ⟨by omega, Iff.rfl, by omega⟩
  · rw [u0_6 (by omega), u0_6 (by omega)]; exact ⟨by omega, Iff.rfl, by omega⟩
  · have : i = 0 ∨ i = 1 ∨ i = 2 := by omega
    rcases this with rfl | rfl | rfl <;> decide
theorem rel_init : Rel iX5 iX6 := ⟨rz_init, ⟨shp_init, Or.inl ⟨rfl, rfl⟩⟩, ⟨0, 0, by omega, by omega, rfl, rfl, rfl, fun _ _ => shp_init, fun j hj => absurd hj (by omega)⟩, ⟨0, by omega, rfl, rfl, fun i hi => absurd hi (by omega)⟩⟩
/-! the law: class and reference answer the same, whatever is asked -/
theorem law_true (L : Nat) (xs : Nat → Int32) (hL : L ≤ 2560) : f_L_law L xs iX5 iX6 = some 1 := by
  unfold f_L_law
  refine lpN_rule (f_L_law_l18 L xs) (fun _ r => r = some 1) (fun v => ∃ i : Nat, i ≤ 2600 ∧ v.1 = nI i ∧ Rel v.2.1 v.2.2) (fun v => 2700 - v.1.toNatClampNeg) ?_ 3000 (0, iX5, iX6) ⟨0, by omega, rfl, rel_init⟩ (by omega)
  rintro k ⟨a, x, y⟩ ⟨i, hi, e, h⟩ hk
  simp only at e h
  subst e
  show f_L_law_l18 L xs k (nI i, x, y) = some 1
  unfold f_L_law_l18
  by_cases h0 : nI L - 5 < nI i
  · rw [if_pos (show (Int32.ofNat L) - 5 < nI i from h0)]
  · rw [if_neg (show ¬ (Int32.ofNat L) - 5 < nI i from h0)]
    have h5 : i + 5 ≤ L := by
      by_cases hl : 5 ≤ L
      · rw [li5, pk_sub hl, nI_ltI (by omega) (by omega)] at h0
        omega
      · exfalso
        refine h0 (Int32.lt_of_lt_of_le (pk_sneg (show 5 < 2 ^ 30 by omega) (show L < 5 by omega)) ?_)
        rw [li0, nI_leI (by omega) (by omega)]
        omega
    have hn : ∀ x' y', Rel x' y' → k (nI i + 5, x', y') = some 1 := by
      intro x' y' hr
      refine hk _ ⟨i + 5, by omega, by rw [li5, nI_add], hr⟩ ?_
      show 2700 - (nI i + 5).toNatClampNeg < 2700 - (nI i).toNatClampNeg
      rw [li5, nI_add, nI_clamp (by omega), nI_clamp (by omega)]
      omega
    have c0 : (nI i < 0 ∨ L ≤ i) = False := g_in2 (by omega) (by omega)
    have c1 : (nI i + 1 < 0 ∨ L ≤ i + 1) = False := by rw [li1, nI_add]; exact g_in2 (by omega) (by omega)
    have c2 : (nI i + 2 < 0 ∨ L ≤ i + 2) = False := by rw [li2, nI_add]; exact g_in2 (by omega) (by omega)
    have c3 : (nI i + 3 < 0 ∨ L ≤ i + 3) = False := by rw [li3, nI_add]; exact g_in2 (by omega) (by omega)
    have c4 : (nI i + 4 < 0 ∨ L ≤ i + 4) = False := by rw [li4, nI_add]; exact g_in2 (by omega) (by omega)
    have d0 : (nI i).toNatClampNeg = i := nI_clamp (by omega)
    have d1 : (nI i + 1).toNatClampNeg = i + 1 := by rw [li1, nI_add]; exact nI_clamp (by omega)
    have d2 : (nI i + 2).toNatClampNeg = i + 2 := by rw [li2, nI_add]; exact nI_clamp (by omega)
    have d3 : (nI i + 3).toNatClampNeg = i + 3 := by rw [li3, nI_add]; exact nI_clamp (by omega)
    have d4 : (nI i + 4).toNatClampNeg = i + 4 := by rw [li4, nI_add]; exact nI_clamp (by omega)
    simp only [d0, d1, d2, d3, d4, c0, c1, c2, c3, c4, ↓reduceIte]
    generalize (xs i &&& 31) = w
    by_cases w0 : w < 0
    · rw [if_pos w0]
      exact hn _ _ h
    rw [if_neg w0]
    by_cases w23 : 23 < w
    · rw [if_pos w23]
      exact hn _ _ h
    rw [if_neg w23]
    by_cases e0 : w = 0
    · rw [if_pos e0]
      obtain ⟨v, x', y', q1, q2, q3⟩ := m_arrow h (xs (i + 1)) (xs (i + 2)) (xs (i + 3))
      simp only [q1, q2, Option.bind_some, ↓reduceIte]
      exact hn _ _ q3
    rw [if_neg e0]
    by_cases e1 : w = 1
    · rw [if_pos e1]
      obtain ⟨v, x', y', q1, q2, q3⟩ := m_word h (xs (i + 1)) (xs (i + 2)) (xs (i + 3))
      simp only [q1, q2, Option.bind_some, ↓reduceIte]
      exact hn _ _ q3
    rw [if_neg e1]
    by_cases e2 : w = 2
    · rw [if_pos e2]
      obtain ⟨v, x', y', q1, q2, q3⟩ := m_dash h (xs (i + 1)) (xs (i + 2)) (xs (i + 3))
      simp only [q1, q2, Option.bind_some, ↓reduceIte]
      exact hn _ _ q3
    rw [if_neg e2]
    by_cases e3 : w = 3
    · rw [if_pos e3]
      obtain ⟨v, x', y', q1, q2, q3⟩ := m_erase h (xs (i + 1)) (xs (i + 2))
      simp only [q1, q2, Option.bind_some, ↓reduceIte]
      exact hn _ _ q3
    rw [if_neg e3]
    by_cases e4 : w = 4
    · rw [if_pos e4]
      obtain ⟨v, x', y', q1, q2, q3⟩ := m_set h (xs (i + 1)) (xs (i + 2))
      simp only [q1, q2, Option.bind_some, ↓reduceIte]
      exact hn _ _ q3
    rw [if_neg e4]
    by_cases e5 : w = 5
    · rw [if_pos e5]
      obtain ⟨v, x', y', q1, q2, q3⟩ := m_traffic h (xs (i + 1)) (xs (i + 2))
      simp only [q1, q2, Option.bind_some, ↓reduceIte]
      exact hn _ _ q3
    rw [if_neg e5]
    by_cases e6 : w = 6
    · rw [if_pos e6]
      obtain ⟨v, x', y', q1, q2, q3⟩ := m_bring h (xs (i + 1))
      simp only [q1, q2, Option.bind_some, ↓reduceIte]
      exact hn _ _ q3
    rw [if_neg e6]
    by_cases e7 : w = 7
    · rw [if_pos e7]
      obtain ⟨v, x', y', q1, q2, q3⟩ := m_pass h (xs (i + 1))
      simp only [q1, q2, Option.bind_some, ↓reduceIte]
      exact hn _ _ q3
    rw [if_neg e7]
    by_cases e8 : w = 8
    · rw [if_pos e8]
      obtain ⟨v, x', y', q1, q2, q3⟩ := m_night h (xs (i + 1)) (xs (i + 2))
      simp only [q1, q2, Option.bind_some, ↓reduceIte]
      exact hn _ _ q3
    rw [if_neg e8]
    by_cases e9 : w = 9
    · rw [if_pos e9]
      obtain ⟨v, q1, q2⟩ := m_cell h.1 (xs (i + 1)) (xs (i + 2)) (xs (i + 3))
      simp only [q1, q2, Option.bind_some, ↓reduceIte]
      exact hn _ _ h
    rw [if_neg e9]
    by_cases e10 : w = 10
    · rw [if_pos e10]
      obtain ⟨v, q1, q2⟩ := m_line h.1 (xs (i + 1)) (xs (i + 2)) (xs (i + 3))
      simp only [q1, q2, Option.bind_some, ↓reduceIte]
      exact hn _ _ h
    rw [if_neg e10]
    by_cases e11 : w = 11
    · rw [if_pos e11]
      obtain ⟨v, q1, q2⟩ := m_mayChange h.1 (xs (i + 1)) (xs (i + 2)) (xs (i + 3)) (xs (i + 4))
      simp only [q1, q2, Option.bind_some, ↓reduceIte]
      exact hn _ _ h
    rw [if_neg e11]
    by_cases e12 : w = 12
    · rw [if_pos e12]
      obtain ⟨v, q1, q2⟩ := m_total h.1 (xs (i + 1))
      simp only [q1, q2, Option.bind_some, ↓reduceIte]
      exact hn _ _ h
    rw [if_neg e12]
    by_cases e13 : w = 13
    · rw [if_pos e13]
      obtain ⟨v, q1, q2⟩ := whyNot_u h.1 (xs (i + 1)) (xs (i + 2)) (xs (i + 3))
      simp only [q1, q2, Option.bind_some, ↓reduceIte]
      exact hn _ _ h
    rw [if_neg e13]
    by_cases e14 : w = 14
    · rw [if_pos e14]
      obtain ⟨v, q1, q2⟩ := m_readableFor h.1 (xs (i + 1)) (xs (i + 2))
      simp only [q1, q2, Option.bind_some, ↓reduceIte]
      exact hn _ _ h
    rw [if_neg e14]
    by_cases e15 : w = 15
    · rw [if_pos e15]
      obtain ⟨v, q1, q2⟩ := m_bestNight h.1 
      simp only [q1, q2, Option.bind_some, ↓reduceIte]
      exact hn _ _ h
    rw [if_neg e15]
    by_cases e16 : w = 16
    · rw [if_pos e16]
      obtain ⟨v, dr, f, q1, q2⟩ := m_fewest h.1 (xs (i + 1)) (xs (i + 2))
      simp only [q1, q2, Option.bind_some, ↓reduceIte]
      exact hn _ _ h
    rw [if_neg e16]
    by_cases e17 : w = 17
    · rw [if_pos e17]
      obtain ⟨v, x', y', q1, q2, q3⟩ := m_append h (xs (i + 1))
      simp only [q1, q2, Option.bind_some, ↓reduceIte]
      exact hn _ _ q3
    rw [if_neg e17]
    by_cases e18 : w = 18
    · rw [if_pos e18]
      obtain ⟨v, x', y', q1, q2, q3⟩ := m_clearText h 
      simp only [q1, q2, Option.bind_some, ↓reduceIte]
      exact hn _ _ q3
    rw [if_neg e18]
    by_cases e19 : w = 19
    · rw [if_pos e19]
      obtain ⟨v, y', q1, q2, q3⟩ := m_errorPosition h
      simp only [q1, q2, Option.bind_some, ↓reduceIte]
      exact hn _ _ q3
    rw [if_neg e19]
    by_cases e20 : w = 20
    · rw [if_pos e20]
      obtain ⟨v, x', y', q1, q2, q3⟩ := m_carryOut h 
      simp only [q1, q2, Option.bind_some, ↓reduceIte]
      exact hn _ _ q3
    rw [if_neg e20]
    by_cases e21 : w = 21
    · rw [if_pos e21]
      obtain ⟨v, x', y', q1, q2, q3⟩ := m_undo h 
      simp only [q1, q2, Option.bind_some, ↓reduceIte]
      exact hn _ _ q3
    rw [if_neg e21]
    by_cases e22 : w = 22
    · rw [if_pos e22]
      obtain ⟨v, x', y', q1, q2, q3⟩ := m_save h 
      simp only [q1, q2, Option.bind_some, ↓reduceIte]
      exact hn _ _ q3
    rw [if_neg e22]
    by_cases e23 : w = 23
    · rw [if_pos e23]
      obtain ⟨v, x', y', q1, q2, q3⟩ := m_restore h 
      simp only [q1, q2, Option.bind_some, ↓reduceIte]
      exact hn _ _ q3
    rw [if_neg e23]
    exfalso
    obtain ⟨v, hv, rfl⟩ := nI_of w0
    rw [show (23 : Int32) = nI 23 from rfl, nI_ltI (by omega) hv] at w23
    rw [show (0 : Int32) = nI 0 from rfl, nI_eq hv (by omega)] at e0
    rw [show (1 : Int32) = nI 1 from rfl, nI_eq hv (by omega)] at e1
    rw [show (2 : Int32) = nI 2 from rfl, nI_eq hv (by omega)] at e2
    rw [show (3 : Int32) = nI 3 from rfl, nI_eq hv (by omega)] at e3
    rw [show (4 : Int32) = nI 4 from rfl, nI_eq hv (by omega)] at e4
    rw [show (5 : Int32) = nI 5 from rfl, nI_eq hv (by omega)] at e5
    rw [show (6 : Int32) = nI 6 from rfl, nI_eq hv (by omega)] at e6
    rw [show (7 : Int32) = nI 7 from rfl, nI_eq hv (by omega)] at e7
    rw [show (8 : Int32) = nI 8 from rfl, nI_eq hv (by omega)] at e8
    rw [show (9 : Int32) = nI 9 from rfl, nI_eq hv (by omega)] at e9
    rw [show (10 : Int32) = nI 10 from rfl, nI_eq hv (by omega)] at e10
    rw [show (11 : Int32) = nI 11 from rfl, nI_eq hv (by omega)] at e11
    rw [show (12 : Int32) = nI 12 from rfl, nI_eq hv (by omega)] at e12
    rw [show (13 : Int32) = nI 13 from rfl, nI_eq hv (by omega)] at e13
    rw [show (14 : Int32) = nI 14 from rfl, nI_eq hv (by omega)] at e14
    rw [show (15 : Int32) = nI 15 from rfl, nI_eq hv (by omega)] at e15
    rw [show (16 : Int32) = nI 16 from rfl, nI_eq hv (by omega)] at e16
    rw [show (17 : Int32) = nI 17 from rfl, nI_eq hv (by omega)] at e17
    rw [show (18 : Int32) = nI 18 from rfl, nI_eq hv (by omega)] at e18
    rw [show (19 : Int32) = nI 19 from rfl, nI_eq hv (by omega)] at e19
    rw [show (20 : Int32) = nI 20 from rfl, nI_eq hv (by omega)] at e20
    rw [show (21 : Int32) = nI 21 from rfl, nI_eq hv (by omega)] at e21
    rw [show (22 : Int32) = nI 22 from rfl, nI_eq hv (by omega)] at e22
    rw [show (23 : Int32) = nI 23 from rfl, nI_eq hv (by omega)] at e23
    omega
