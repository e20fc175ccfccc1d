/-! orders, one by one -/
section OT
variable {y : TX6s} {n : Nat} {L : Nat → Int32}
theorem j158_s {told : Nat → Int32} {t : Nat} {st : Nat × Bool} : f_X6_readOrder_j158 (sT y told (nI t) st) = some (sT y told (nI (t + 1)) st) := by
  unfold f_X6_readOrder_j158
  show some (y.1, y.2.1, y.2.2.1, y.2.2.2.1, y.2.2.2.2.1, y.2.2.2.2.2.1, y.2.2.2.2.2.2.1, y.2.2.2.2.2.2.2.1, told, nI t + 1, _, _) = _
  rw [nI_1]
  rfl
theorem order_s (h : TY y n L) {t s : Nat} (ht : t ≤ 35) (hs : s ≤ n) (told : Nat → Int32) : ∃ told', f_X6_readOrder (setT y told (nI t) (nI s) (-6)) = some (sT y told' (nI (t + 1)) (oe n L s)) ∧ (∀ i, i < 4 * t → told' i = told i) ∧ ((oe n L s).2 = true → told' (4 * t) = L s ∧ ∀ k, 1 ≤ k → k < fLen (fOf (L s)) → told' (4 * t + k) = vl (kdOf (fOf (L s)) k) (L (s + k))) := by
  have hn := h.1
  have hl := letter_s (told := told) (m := nI t) h s (by omega) (-6)
  have hc : ∀ c : Int32, f_X6_letter (setT y told (nI t) (nI s) (-6)) = some c → f_X6_readOrder (setT y told (nI t) (nI s) (-6)) = f_X6_readOrder_j41 (setT y told (nI t) (nI s) (-6)) c (if decide (fOf c ≠ 6) = true then 1 else 0) := by
    intro c hc
    unfold f_X6_readOrder f_X6_readOrder_j36
    rw [hc, Option.bind_some]
    rcases fOf_cases c with ⟨e, g1, g2, g3, g4, g5⟩ | ⟨e, rfl⟩ | ⟨e, rfl⟩ | ⟨e, rfl⟩ | ⟨e, rfl⟩ | ⟨e, rfl⟩
    · rw [e, if_neg g1, if_neg g5, if_neg g3, if_neg g4, if_neg g2]; rfl
    · rfl
    · rfl
    · rfl
    · rfl
    · rfl
  rw [hc _ hl]
  unfold f_X6_readOrder_j41
  rw [wants_s, Option.bind_some]
  simp only [sT_8, sT_9, li4, pk_mul, nI_clamp (show 4 * t < 2 ^ 31 by omega), g_in2 (show 4 * t < 144 by omega) (by omega), ↓reduceIte, nI_add, li1, li2, nI_clamp (show 4 * t + 1 < 2 ^ 31 by omega), g_in2 (show 4 * t + 1 < 144 by omega) (by omega), nI_clamp (show 4 * t + 2 < 2 ^ 31 by omega), g_in2 (show 4 * t + 2 < 144 by omega) (by omega), sT_told]
  by_cases h0 : s < n ∧ fOf (L s) ≠ 6
  · have hcs : (if n ≤ s then (-6 : Int32) else L s) = L s := if_neg (by omega)
    rw [hcs]
    simp only [decide_eq_true_eq, if_pos h0.2]
    have hs1 : ((s + 1, true) : Nat × Bool).1 ≤ 70 := by show s + 1 ≤ 70; omega
    have ho : oe n L s = rsF n L (fOf (L s)) (fLen (fOf (L s)) - 1) 1 (s + 1, true) := if_pos h0
    rw [ho]
    rcases fOf_cases (L s) with ⟨e, _⟩ | ⟨e, e2⟩ | ⟨e, e2⟩ | ⟨e, e2⟩ | ⟨e, e2⟩ | ⟨e, e2⟩
    · exact absurd e h0.2
    · rw [e, e2, if_neg (by decide), if_neg (by decide), if_neg (by decide)]
      obtain ⟨told', q1, q2, q3⟩ := j116_s (told := told) h ht hs1 (kd := 2) (k3 := 5) (t1 := 97) (by omega) (by omega) rfl
      refine ⟨told', q1, q2, fun hg => ?_⟩
      obtain ⟨w0, w1, w2, w3⟩ := q3 hg
      refine ⟨w0, fun k k1 k2 => ?_⟩
      have k4 : k < 4 := k2
      have hk : k = 1 ∨ k = 2 ∨ k = 3 := by omega
      rcases hk with rfl | rfl | rfl
      · exact w1
      · exact w2
      · exact w3
    · rw [e, e2, if_neg (by decide), if_pos rfl, j158_s]
      refine ⟨_, rfl, fun i hi => upd_ne (by omega), fun hg => ⟨upd_eq, fun k k1 k2 => ?_⟩⟩
      have k4 : k < 1 := k2
      omega
    · rw [e, e2, if_neg (by decide), if_neg (by decide), if_pos rfl]
      obtain ⟨told', q1, q2, q3⟩ := j116_s (told := told) h ht hs1 (kd := 1) (k3 := 3) (t1 := 108) (by omega) (by omega) (by decide)
      refine ⟨told', q1, q2, fun hg => ?_⟩
      obtain ⟨w0, w1, w2, w3⟩ := q3 hg
      refine ⟨w0, fun k k1 k2 => ?_⟩
      have k4 : k < 4 := k2
      have hk : k = 1 ∨ k = 2 ∨ k = 3 := by omega
      rcases hk with rfl | rfl | rfl
      · exact w1
      · exact w2
      · exact w3
    · rw [e, e2, if_pos rfl]
      have l1 : (stp n L 4 (s + 1, true)).1 ≤ 70 := stp_le hn hs1
      obtain ⟨x1, e1, g1⟩ := mile_s (told := upd told (4 * t) 110) (m := nI t) h (s + 1, true) hs1
      obtain ⟨x2, e3, g2⟩ := mile_s (told := upd (upd told (4 * t) 110) (4 * t + 1) x1) (m := nI t) h (stp n L 4 (s + 1, true)) l1
      refine ⟨upd (upd (upd told (4 * t) 110) (4 * t + 1) x1) (4 * t + 2) x2, ?_, fun i hi => ?_, fun hg => ?_⟩
      · rw [e1, Option.bind_some]
        show (f_X6_mile (sT y (upd (upd told (4 * t) 110) (4 * t + 1) x1) (nI t) (stp n L 4 (s + 1, true)))).bind _ = _
        rw [e3, Option.bind_some]
        show f_X6_readOrder_j158 (sT y (upd (upd (upd told (4 * t) 110) (4 * t + 1) x1) (4 * t + 2) x2) (nI t) (stp n L 4 (stp n L 4 (s + 1, true)))) = _
        rw [j158_s]
        rfl
      · rw [upd_ne (by omega), upd_ne (by omega), upd_ne (by omega)]
      · have hg2 : (stp n L 4 (stp n L 4 (s + 1, true))).2 = true := hg
        obtain ⟨a1, a2⟩ := stp_good hg2
        obtain ⟨b1, b2⟩ := stp_good a1
        refine ⟨?_, fun k k1 k2 => ?_⟩
        · rw [upd_ne (by omega), upd_ne (by omega), upd_eq]
        · have k4 : k < 3 := k2
          have hk : k = 1 ∨ k = 2 := by omega
          rcases hk with rfl | rfl
          · rw [upd_ne (by omega), upd_eq, g1 a1]; rfl
          · rw [upd_eq, g2 hg2, b2]; rfl
    · rw [e, e2, if_neg (by decide), if_neg (by decide), if_neg (by decide)]
      obtain ⟨told', q1, q2, q3⟩ := j116_s (told := told) h ht hs1 (kd := 2) (k3 := 3) (t1 := 119) (by omega) (by omega) (by decide)
      refine ⟨told', q1, q2, fun hg => ?_⟩
      obtain ⟨w0, w1, w2, w3⟩ := q3 hg
      refine ⟨w0, fun k k1 k2 => ?_⟩
      have k4 : k < 4 := k2
      have hk : k = 1 ∨ k = 2 ∨ k = 3 := by omega
      rcases hk with rfl | rfl | rfl
      · exact w1
      · exact w2
      · exact w3
  · have ho : oe n L s = (s, false) := if_neg h0
    have h6 : fOf (if n ≤ s then (-6 : Int32) else L s) = 6 := by
      by_cases hn2 : n ≤ s
      · rw [if_pos hn2]; rfl
      · rw [if_neg hn2]
        by_cases h7 : fOf (L s) = 6
        · exact h7
        · exact absurd ⟨by omega, h7⟩ h0
    generalize (if n ≤ s then (-6 : Int32) else L s) = c at h6
    have hd : (if decide (fOf c ≠ 6) = true then ((s + 1, true) : Nat × Bool) else (s, false)) = (s, false) := by rw [h6]; rfl
    rcases fOf_cases c with ⟨e, g1, g2, g3, g4, g5⟩ | ⟨e, _⟩ | ⟨e, _⟩ | ⟨e, _⟩ | ⟨e, _⟩ | ⟨e, _⟩
    · rw [hd, if_neg g4, if_neg g2, if_neg g3, ho]
      obtain ⟨told', q1, q2, q3⟩ := j116_s (told := told) h ht (st := (s, false)) (by show s ≤ 70; omega) (kd := 2) (k3 := 3) (t1 := c) (by omega) (by omega) (by rw [if_neg g1])
      rw [stp_bad, stp_bad, stp_bad] at q1
      exact ⟨told', q1, q2, fun hg => ff hg⟩
    all_goals omega
end OT
