/-! the fewest changes, both -/
def mn (c : Nat → Nat) : Nat → Nat
  | 0 => 1000
  | j + 1 => if c j < mn c j then c j else mn c j
theorem mn_le {c : Nat → Nat} {j : Nat} : mn c j ≤ 1000 := by
  induction j with
  | zero => exact Nat.le_refl _
  | succ j ih => rw [mn]; split <;> omega
section LH
variable {u : Nat → Nat} {r : TX3s} {x : TX5s} {y : TX6s}
theorem last5 {dr : TX0s} {c : Nat → Nat} {K : Nat} (hx : CA dr c) (hc : bnd c K) (hK : K < 900) (i : Int32) : lpN (f_X0_driveAlong_l91 (i, dr)) 3000 (1000, 0) = some (cst (mn c 3), dr) := by
  obtain ⟨⟨a1, a2⟩, m, ⟨e1, e2⟩, q⟩ := lp_for1 (f_X0_driveAlong_l91 (i, dr)) (fun j a => a.1 = nI (mn c j) ∧ a.2 = nI j) 3 (by
    rintro j hj ⟨a1, a2⟩ ⟨e1, e2⟩
    simp only at e1 e2
    subst e1 e2
    have h1 := hc j hj
    have h2 := @mn_le c j
    refine ⟨(nI (mn c (j + 1)), nI (j + 1)), ⟨rfl, rfl⟩, fun k => ?_⟩
    unfold f_X0_driveAlong_l91
    rw [if_neg (by show ¬ (3 : Int32) ≤ nI j; rw [li3, nI_leI (by omega) (by omega)]; omega)]
    simp only [nI_clamp (show j < 2 ^ 31 by omega), g_in2 hj (by omega), ↓reduceIte, hx j hj, ltN (show c j < 2 ^ 31 by omega) (show mn c j < 2 ^ 31 by omega), nI_1]
    rw [mn]
    by_cases h : c j < mn c j
    · rw [if_pos h, if_pos h]
    · rw [if_neg h, if_neg h]) (a := (1000, 0)) ⟨rfl, rfl⟩ (by omega)
  simp only at e1 e2
  subst e1 e2
  rw [q]
  have h2 := @mn_le c 3
  unfold f_X0_driveAlong_l91 cst
  rw [if_pos (show (3 : Int32) ≤ nI 3 by decide)]
  simp only [li1000, eqN (show mn c 3 < 2 ^ 31 by omega) (show 1000 < 2 ^ 31 by omega)]
  split <;> rfl
theorem last6 {f : Nat → Int32} {c : Nat → Nat} {K : Nat} (hf : CB f c) (hc : bnd c K) (hK : K < 900) (i : Int32) : lpN (f_X6_fewestChanges_l279 (i, setC y f)) 3000 (-6, 0) = some (cst (mn c 3), setC y f) := by
  have c6 : ∀ v, v ≤ 1000 → (cst v = -6) = (v = 1000) := by
    intro v hv
    unfold cst
    by_cases e : v = 1000
    · rw [if_pos e]; simp [e]
    · rw [if_neg e, nI_ne6 (by omega)]; simp [e]
  obtain ⟨⟨a1, a2⟩, m, ⟨e1, e2⟩, q⟩ := lp_for1 (f_X6_fewestChanges_l279 (i, setC y f)) (fun j a => a.1 = cst (mn c j) ∧ a.2 = nI j) 3 (by
    rintro j hj ⟨a1, a2⟩ ⟨e1, e2⟩
    simp only at e1 e2
    subst e1 e2
    have h1 := hc j hj
    have h2 := @mn_le c j
    refine ⟨(cst (mn c (j + 1)), nI (j + 1)), ⟨rfl, rfl⟩, fun k => ?_⟩
    unfold f_X6_fewestChanges_l279 f_X6_fewestChanges_j314
    rw [if_neg (by show ¬ (3 : Int32) ≤ nI j; rw [li3, nI_leI (by omega) (by omega)]; omega)]
    have q1 : (setC y f).2.2.2.2.2.2.2.1 = f := rfl
    simp only [q1, nI_clamp (show j < 2 ^ 31 by omega), g_in2 hj (by omega), ↓reduceIte, hf j hj, c6 (c j) (by omega), c6 (mn c j) (by omega), nI_1]
    rw [mn]
    by_cases h3 : c j = 1000
    · rw [if_pos h3, if_neg (by omega)]
    · rw [if_neg h3]
      by_cases h4 : mn c j = 1000
      · rw [if_pos h4, if_pos (by omega)]
      · rw [if_neg h4]
        have e5 : (cst (mn c j) ≤ cst (c j)) = (mn c j ≤ c j) := by unfold cst; rw [if_neg h3, if_neg h4, leN (by omega) (by omega)]
        by_cases h5 : mn c j ≤ c j
        · rw [if_pos (by rw [e5]; exact h5), if_neg (by omega)]
        · rw [if_neg (by rw [e5]; exact h5), if_pos (by omega)]) (a := (-6, 0)) ⟨rfl, rfl⟩ (by omega)
  simp only at e1 e2
  subst e1 e2
  rw [q]
  unfold f_X6_fewestChanges_l279
  rw [if_pos (show (3 : Int32) ≤ nI 3 by decide)]
theorem drive_u (hr : RdU u r) (hz : ZU u y.1) (hu : UOk u) {dr : TX0s} {f : Nat → Int32} {c : Nat → Nat} (hx : CA dr c) (hf : CB f c) (hc : bnd c 0) {d : Nat} (hd : d < 2) : ∃ v dr' f', lpN (f_X0_driveAlong_l38 r (nI d)) 3000 (0, dr) = some (v, dr') ∧ lpN (f_X6_fewestChanges_l55 (nI d)) 3000 (0, setC y f) = some (v, setC y f') := by
  refine lpN_rel (f_X0_driveAlong_l38 r (nI d)) (f_X6_fewestChanges_l55 (nI d)) (fun v v' => ∃ j c f, j ≤ 16 ∧ v.1 = nI j ∧ v'.1 = nI j ∧ CA v.2 c ∧ v'.2 = setC y f ∧ CB f c ∧ bnd c (12 * j)) (fun v _ => 16 - v.1.toNatClampNeg) (fun r1 r2 => ∃ v dr' f', r1 = some (v, dr') ∧ r2 = some (v, setC y f')) ?_ 3000 (0, dr) (0, setC y f) ⟨0, c, f, by omega, rfl, rfl, hx, rfl, hf, hc⟩ (by omega)
  rintro k1 k2 ⟨a1, a2⟩ ⟨b1, b2⟩ ⟨j, c, f, hj, e1, e2, e3, e4, e5, e6⟩ hk
  simp only at e1 e2 e3 e4
  subst e1 e2 e4
  by_cases h16 : j = 16
  · subst h16
    unfold f_X0_driveAlong_l38 f_X6_fewestChanges_l55
    rw [if_pos (show (16 : Int32) ≤ nI 16 by decide), if_pos (show (16 : Int32) ≤ nI 16 by decide), last5 e3 e6 (by omega), last6 e5 e6 (by omega)]
    exact ⟨_, _, _, rfl, rfl⟩
  · have hm : 16 - (nI (j + 1)).toNatClampNeg < 16 - (nI j).toNatClampNeg := by
      rw [nI_clamp (by omega), nI_clamp (by omega)]; omega
    have key : ∀ b, b < 16 → ∃ v dr' f', f_X0_driveAlong_j59 r (nI d) k1 (nI j, a2) (nI b) = some (v, dr') ∧ f_X6_fewestChanges_j73 (nI d) k2 (nI j, setC y f) (nI b) = some (v, setC y f') := by
      intro b hb
      obtain ⟨x', q1, q2⟩ := mileC5 hr hu e3 e6 (by omega) hb hd
      obtain ⟨f', q3, q4⟩ := mileC6 (y := y) hz hu e5 e6 (by omega) hb hd
      rw [q1, q3]
      exact hk _ _ ⟨j + 1, mlC u b d c, f', by omega, nI_1 j, nI_1 j, q2, rfl, q4, by rw [show 12 * (j + 1) = 12 * j + 12 by omega]; exact mlC_bnd e6 (by omega)⟩ (by show 16 - (nI j + 1).toNatClampNeg < _; rw [nI_1]; exact hm)
    unfold f_X0_driveAlong_l38 f_X6_fewestChanges_l55
    have n16 : ¬ (16 : Int32) ≤ nI j := by rw [li16, nI_leI (by omega) (by omega)]; omega
    simp only [n16, ↓reduceIte, eq0 (show d < 2 ^ 31 by omega)]
    by_cases h0 : d = 0
    · simp only [if_pos h0]
      exact key j (by omega)
    · simp only [if_neg h0]
      rw [li15, pk_sub (by omega)]
      exact key (15 - j) (by omega)
theorem m_fewest (h : RZ x.1 y.1) (p q : Int32) : ∃ v dr f, f_X5_fewestChanges x p q = some (v, (x.1, x.2.1, x.2.2.1, x.2.2.2.1, x.2.2.2.2.1, dr)) ∧ f_X6_fewestChanges y p q = some (v, setC y f) := by
  obtain ⟨u, hr, hz, hu, _⟩ := h
  unfold f_X5_fewestChanges f_X6_fewestChanges
  rw [isW, isW]
  rcases in_cases q 0 2 li0 li2 (by omega) (by omega) with ⟨l, _, hl, rfl, e⟩ | e
  · rcases in_cases p 0 1 li0 li1 (by omega) (by omega) with ⟨d, _, hd, rfl, e2⟩ | e2
    · rw [e, e2]
      simp only [Option.bind_some, show ¬ (1 : Int32) = 0 by decide, ↓reduceIte]
      unfold f_X0_driveAlong
      obtain ⟨⟨a1, a2⟩, m, ⟨e3, e4⟩, q5⟩ := lp_for1 (f_X0_driveAlong_l3 x.1 (nI d) (nI l)) (fun j a => a.1 = nI j ∧ ∀ k, k < j → k < 3 → a.2 k = nI (if k = l then 0 else 1000)) 3 (by
        rintro j hj ⟨a1, a2⟩ ⟨e1, e2⟩
        simp only at e1 e2
        subst e1
        refine ⟨(nI (j + 1), if j = l then upd a2 j 0 else upd a2 j 1000), ⟨rfl, fun k hk hk3 => ?_⟩, fun k => ?_⟩
        · by_cases hkj : k = j
          · subst hkj
            by_cases h : k = l
            · simp only [if_pos h, upd_eq]; rfl
            · simp only [if_neg h, upd_eq]; rfl
          · have h2 := e2 k (by omega) hk3
            by_cases h : j = l
            · simp only [if_pos h, upd_ne hkj, h2]
            · simp only [if_neg h, upd_ne hkj, h2]
        · unfold f_X0_driveAlong_l3
          rw [if_neg (by show ¬ (3 : Int32) ≤ nI j; rw [li3, nI_leI (by omega) (by omega)]; omega)]
          simp only [eqN (show j < 2 ^ 31 by omega) (show l < 2 ^ 31 by omega), nI_clamp (show j < 2 ^ 31 by omega), g_in2 hj (by omega), ↓reduceIte, nI_1]
          by_cases h : j = l
          · simp only [if_pos h]
          · simp only [if_neg h]) (a := (0, x.2.2.2.2.2)) ⟨rfl, fun k hk => by omega⟩ (by omega)
      obtain ⟨⟨b1, b2⟩, m', ⟨g3, f, g4, g5⟩, q6⟩ := lp_for1 (f_X6_fewestChanges_l25 (nI d) (nI l)) (fun j a => a.1 = nI j ∧ ∃ f, a.2 = setC y f ∧ ∀ k, k < j → k < 3 → f k = cst (if k = l then 0 else 1000)) 3 (by
        rintro j hj ⟨a1, a2⟩ ⟨e1, f, e2, e3⟩
        simp only at e1 e2
        subst e1 e2
        refine ⟨(nI (j + 1), setC y (if j = l then upd f j 0 else upd f j (-6))), ⟨rfl, _, rfl, fun k hk hk3 => ?_⟩, fun k => ?_⟩
        · by_cases hkj : k = j
          · subst hkj
            by_cases h : k = l
            · simp only [if_pos h, upd_eq]; rfl
            · simp only [if_neg h, upd_eq]; rfl
          · have h2 := e3 k (by omega) hk3
            by_cases h : j = l
            · simp only [if_pos h, upd_ne hkj, h2]
            · simp only [if_neg h, upd_ne hkj, h2]
        · unfold f_X6_fewestChanges_l25
          rw [if_neg (by show ¬ (3 : Int32) ≤ nI j; rw [li3, nI_leI (by omega) (by omega)]; omega)]
          have q1 : (setC y f).2.2.2.2.2.2.2.1 = f := rfl
          simp only [eqN (show j < 2 ^ 31 by omega) (show l < 2 ^ 31 by omega), q1, nI_clamp (show j < 2 ^ 31 by omega), g_in2 hj (by omega), ↓reduceIte, nI_1]
          by_cases h : j = l
          · simp only [if_pos h]; rfl
          · simp only [if_neg h]; rfl) (a := (0, y)) ⟨rfl, y.2.2.2.2.2.2.2.1, rfl, fun k hk => by omega⟩ (by omega)
      simp only at e3 e4 g3 g4
      subst e3 g3 g4
      rw [q5, q6]
      unfold f_X0_driveAlong_l3 f_X6_fewestChanges_l25
      rw [if_pos (show (3 : Int32) ≤ nI 3 by decide), if_pos (show (3 : Int32) ≤ nI 3 by decide)]
      obtain ⟨v, dr', f', w1, w2⟩ := drive_u (dr := a2) (f := f) (c := fun k => if k = l then 0 else 1000) hr hz hu (fun k hk => e4 k hk hk) (fun k hk => g5 k hk hk) (fun k hk => by show (if k = l then 0 else 1000) = 1000 ∨ (if k = l then 0 else 1000) ≤ 0; split <;> omega) (show d < 2 by omega)
      refine ⟨v, dr', f', ?_, w2⟩
      show (lpN (f_X0_driveAlong_l38 x.1 (nI d)) 3000 (0, a2)).bind _ = _
      rw [w1]; rfl
    · rw [e, e2]
      exact ⟨_, _, y.2.2.2.2.2.2.2.1, rfl, rfl⟩
  · rw [e]
    exact ⟨_, _, y.2.2.2.2.2.2.2.1, rfl, rfl⟩
end LH
