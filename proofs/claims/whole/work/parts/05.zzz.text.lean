/-! texts: errorPosition, carryOut -/
section TX
variable {x : TX5s} {y : TX6s}
theorem Rel.TY {n : Nat} (h : OR x.2.2.2.2.1 y.2.2.2.2.2.1 y.2.2.2.2.2.2.1) : ∃ n : Nat, n ≤ 70 ∧ x.2.2.2.2.1.2 = nI n ∧ TY y n x.2.2.2.2.1.1 ∧ ∀ i, i < n → ∃ v : Nat, 33 ≤ v ∧ v ≤ 126 ∧ x.2.2.2.2.1.1 i = nI v := by
  obtain ⟨n, hn, e1, e2, e3⟩ := h
  refine ⟨n, hn, e1, ⟨hn, e2, fun i hi => ?_⟩, fun i hi => ?_⟩
  · obtain ⟨v, _, _, g1, g2⟩ := e3 i hi
    rw [g1, g2]
  · obtain ⟨v, k1, k2, g1, g2⟩ := e3 i hi
    exact ⟨v, k1, k2, g1⟩
theorem m_errorPosition (h : Rel x y) : ∃ v y', f_X5_errorPosition x = some v ∧ f_X6_errorPosition y = some (v, y') ∧ Rel x y' := by
  obtain ⟨n, hn, e1, e2, e3⟩ := Rel.TY (n := 0) h.2.2.2
  obtain ⟨told, t, s, w, q1, _⟩ := wrong_u e2
  refine ⟨_, _, ?_, q1, h⟩
  unfold f_X5_errorPosition
  rw [firstError_u hn e1 e3]
  rfl
theorem m_carryOut (h : Rel x y) : ∃ v x' y', f_X5_carryOut x = some (v, x') ∧ f_X6_carryOut y = some (v, y') ∧ Rel x' y' := by
  obtain ⟨n, hn, e1, e2, e3⟩ := Rel.TY (n := 0) h.2.2.2
  obtain ⟨told, t, s, w, q1, q2⟩ := wrong_u e2
  have hY : Rel x (setT y told t s w) := h
  unfold f_X5_carryOut f_X6_carryOut
  rw [firstError_u hn e1 e3, q1]
  simp only [Option.bind_some]
  by_cases h6 : fe n x.2.2.2.2.1.1 71 0 = -6
  · rw [if_pos h6, if_pos h6]
    obtain ⟨T, S, ht, hT, ⟨hS0, hS⟩, hSn⟩ := q2 h6
    subst ht
    obtain ⟨h', p', c', r1, r2, r3⟩ := record_u (h := x.2.2.2.1) (y := setT y told (nI T) s w) h.2.2.1 h.1
    rw [r1, r2]
    simp only [Option.bind_some]
    refine lpN_rel f_X5_carryOut_l30 f_X6_carryOut_l18 (fun a b => ∃ j r z, j ≤ T ∧ a = (nI (S j), nI j, (r, x.2.1, x.2.2.1, h', x.2.2.2.2.1, x.2.2.2.2.2)) ∧ b = (nI j, (z, (setP (setT y told (nI T) s w) p' c').2)) ∧ RZ r z) (fun a _ => 72 - a.2.1.toNatClampNeg) (fun r1 r2 => ∃ v x' y', r1 = some (v, x') ∧ r2 = some (v, y') ∧ Rel x' y') ?_ 3000 _ _ ⟨0, x.1, y.1, by omega, by rw [hS0]; rfl, rfl, h.1⟩ (by show 72 - (0 : Int32).toNatClampNeg < 3000; omega)
    rintro k1 k2 a b ⟨j, r, z, hj, rfl, rfl, hrz⟩ hk
    have ends : Rel (r, x.2.1, x.2.2.1, h', (x.2.2.2.2.1.1, 0), x.2.2.2.2.2) (z, p', c', y.2.2.2.1, y.2.2.2.2.1, y.2.2.2.2.2.1, 0, (setT y told (nI T) s w).2.2.2.2.2.2.2) := ⟨hrz, h.2.1, r3, ⟨0, by omega, rfl, rfl, fun i hi => by omega⟩⟩
    unfold f_X5_carryOut_l30 f_X6_carryOut_l18 f_X5_carryOut_j74
    rw [if_neg (by show ¬ (70 : Int32) ≤ nI j; rw [li70, nI_leI (by omega) (by omega)]; omega)]
    by_cases hjT : j = T
    · subst hjT
      rw [if_pos (by show x.2.2.2.2.1.2 ≤ nI (S j); rw [e1, hSn, nI_leI (by omega) (by omega)]; omega), if_pos (by show nI j ≤ nI j; exact Int32.le_refl _)]
      exact ⟨_, _, _, rfl, rfl, ends⟩
    · obtain ⟨g1, g2, g3, g4⟩ := hS j (by omega)
      obtain ⟨k3, k4, _, _⟩ := oe_good g1
      have hf6 : fOf (x.2.2.2.2.1.1 (S j)) < 6 := by have := fOf_le k4; omega
      have hl := fLen_le hf6
      rw [if_neg (by show ¬ x.2.2.2.2.1.2 ≤ nI (S j); rw [e1, nI_leI (by omega) (by omega)]; omega), if_neg (by show ¬ nI T ≤ nI j; rw [nI_leI (by omega) (by omega)]; omega)]
      have hone := one_u (x := (r, x.2.1, x.2.2.1, h', x.2.2.2.2.1, x.2.2.2.2.2)) (y := (z, (setP (setT y told (nI T) s w) p' c').2)) hrz hn e1 e3 (show j ≤ 35 by omega) g1 g3 g4
      have h4 : (4 : Int32) * nI j = nI (4 * j) := by rw [li4, pk_mul]
      rcases hone with ⟨r', z', w1, w2, w3⟩ | ⟨v, hv, w1, w2⟩
      · simp only [w1, h4, w2, Option.bind_some, ↓reduceIte, show ¬ (1 : Int32) = 0 by decide]
        have hw : f_X2_widthAt x.2.2.2.2.1 (nI (S j)) = some (nI (fLen (fOf (x.2.2.2.2.1.1 (S j))))) := by
          unfold f_X2_widthAt
          rw [codeAt_u hn e1 k3, Option.bind_some, formOf_u, Option.bind_some, len_q hf6]
          rfl
        simp only [hw, Option.bind_some, nI_1, nI_add]
        refine hk _ _ ⟨j + 1, r', z', by omega, ?_, rfl, w3⟩ ?_
        · rw [g2, ← Nat.add_assoc]
        · show 72 - (nI (j + 1)).toNatClampNeg < 72 - (nI j).toNatClampNeg
          rw [nI_clamp (by omega), nI_clamp (by omega)]; omega
      · simp only [w1, h4, w2, Option.bind_some, ↓reduceIte, if_neg hv]
        exact ⟨_, _, _, rfl, rfl, ends⟩
  · rw [if_neg h6, if_neg h6]
    exact ⟨_, _, _, rfl, rfl, hY⟩
end TX
