/-! an order is read -/
theorem stp_le {n : Nat} {L : Nat → Int32} {kd : Nat} {st : Nat × Bool} (hn : n ≤ 70) (h : st.1 ≤ 70) : (stp n L kd st).1 ≤ 70 := by
  unfold stp
  split
  · rename_i h1; simp only; omega
  · exact h
theorem stp_good {n : Nat} {L : Nat → Int32} {kd : Nat} {st : Nat × Bool} (h : (stp n L kd st).2 = true) : st.2 = true ∧ (stp n L kd st).1 = st.1 + 1 := by
  unfold stp at h ⊢
  split
  · rename_i h1; exact ⟨h1.1, rfl⟩
  · rename_i h1
    rw [if_neg h1] at h
    exact ff h
theorem sT_told {y : TX6s} {told told' : Nat → Int32} {m : Int32} {st : Nat × Bool} : ((sT y told m st).1, (sT y told m st).2.1, (sT y told m st).2.2.1, (sT y told m st).2.2.2.1, (sT y told m st).2.2.2.2.1, (sT y told m st).2.2.2.2.2.1, (sT y told m st).2.2.2.2.2.2.1, (sT y told m st).2.2.2.2.2.2.2.1, told', m, (sT y told m st).2.2.2.2.2.2.2.2.2.2.1, (sT y told m st).2.2.2.2.2.2.2.2.2.2.2) = sT y told' m st := rfl
theorem sT_8 {y : TX6s} {told : Nat → Int32} {m : Int32} {st : Nat × Bool} : (sT y told m st).2.2.2.2.2.2.2.2.1 = told := rfl
theorem sT_9 {y : TX6s} {told : Nat → Int32} {m : Int32} {st : Nat × Bool} : (sT y told m st).2.2.2.2.2.2.2.2.2.1 = m := rfl
section OS
variable {y : TX6s} {n : Nat} {L : Nat → Int32}
theorem j157_s {t : Nat} (ht : t ≤ 35) {told told0 : Nat → Int32} {st0 st : Nat × Bool} (x : Int32) : f_X6_readOrder_j157 (sT y told0 (nI t) st0) (x, sT y told (nI t) st) = some (sT y (upd told (4 * t + 3) x) (nI (t + 1)) st) := by
  unfold f_X6_readOrder_j157 f_X6_readOrder_j158
  simp only [sT_9, li4, li3, pk_mul, nI_add, nI_clamp (show 4 * t + 3 < 2 ^ 31 by omega), g_in2 (show 4 * t + 3 < 144 by omega) (by omega), ↓reduceIte]
  show some (y.1, y.2.1, y.2.2.1, y.2.2.2.1, y.2.2.2.2.1, y.2.2.2.2.2.1, y.2.2.2.2.2.2.1, y.2.2.2.2.2.2.2.1, upd told (4 * t + 3) x, nI t + 1, _, _) = _
  rw [nI_1]
  rfl
theorem j116_s (h : TY y n L) {t : Nat} (ht : t ≤ 35) {told : Nat → Int32} {st : Nat × Bool} (hs : st.1 ≤ 70) {kd k3 : Nat} (h4 : kd ≠ 4) (h5 : kd ≠ 5) {t1 : Int32} (hk3 : k3 = if t1 = 97 then 5 else 3) : ∃ told', f_X6_readOrder_j116 t1 (sT y told (nI t) st) (nI kd) = some (sT y told' (nI (t + 1)) (stp n L k3 (stp n L 4 (stp n L kd st)))) ∧ (∀ i, i < 4 * t → told' i = told i) ∧ ((stp n L k3 (stp n L 4 (stp n L kd st))).2 = true → told' (4 * t) = t1 ∧ told' (4 * t + 1) = vl kd (L st.1) ∧ told' (4 * t + 2) = vl 4 (L (st.1 + 1)) ∧ told' (4 * t + 3) = vl k3 (L (st.1 + 2))) := by
  have hn := h.1
  have l1 : (stp n L kd st).1 ≤ 70 := stp_le hn hs
  have l2 : (stp n L 4 (stp n L kd st)).1 ≤ 70 := stp_le hn l1
  obtain ⟨x1, e1, g1⟩ := figure_s (told := upd told (4 * t) t1) (m := nI t) h h4 h5 st hs
  obtain ⟨x2, e2, g2⟩ := mile_s (told := upd (upd told (4 * t) t1) (4 * t + 1) x1) (m := nI t) h (stp n L kd st) l1
  have key : ∃ x3, (if t1 = 97 then (f_X6_way (sT y (upd (upd (upd told (4 * t) t1) (4 * t + 1) x1) (4 * t + 2) x2) (nI t) (stp n L 4 (stp n L kd st)))) else f_X6_figure (sT y (upd (upd (upd told (4 * t) t1) (4 * t + 1) x1) (4 * t + 2) x2) (nI t) (stp n L 4 (stp n L kd st))) 3) = some (x3, sT y (upd (upd (upd told (4 * t) t1) (4 * t + 1) x1) (4 * t + 2) x2) (nI t) (stp n L k3 (stp n L 4 (stp n L kd st)))) ∧ ((stp n L k3 (stp n L 4 (stp n L kd st))).2 = true → x3 = vl k3 (L (stp n L 4 (stp n L kd st)).1)) := by
    by_cases h97 : t1 = 97
    · rw [if_pos h97] at hk3
      subst hk3
      rw [if_pos h97]
      exact way_s h _ l2
    · rw [if_neg h97] at hk3
      subst hk3
      rw [if_neg h97]
      exact figure_s h (by decide) (by decide) _ l2
  obtain ⟨x3, e3, g3⟩ := key
  refine ⟨upd (upd (upd (upd told (4 * t) t1) (4 * t + 1) x1) (4 * t + 2) x2) (4 * t + 3) x3, ?_, ?_, ?_⟩
  · unfold f_X6_readOrder_j116
    simp only [sT_8, sT_9, li4, pk_mul, nI_add, nI_1, show (2 : Int32) = nI 2 from rfl, nI_clamp (show 4 * t < 2 ^ 31 by omega), nI_clamp (show 4 * t + 1 < 2 ^ 31 by omega), nI_clamp (show 4 * t + 2 < 2 ^ 31 by omega), g_in2 (show 4 * t + 1 < 144 by omega) (by omega), g_in2 (show 4 * t + 2 < 144 by omega) (by omega), ↓reduceIte, sT_told, e1, e2, Option.bind_some]
    by_cases h97 : t1 = 97
    · rw [if_pos h97] at e3 ⊢
      rw [e3, Option.bind_some, j157_s ht]
    · rw [if_neg h97] at e3 ⊢
      rw [e3, Option.bind_some, j157_s ht]
  · intro i hi
    rw [upd_ne (by omega), upd_ne (by omega), upd_ne (by omega), upd_ne (by omega)]
  · intro hg
    obtain ⟨a1, a2⟩ := stp_good hg
    obtain ⟨b1, b2⟩ := stp_good a1
    obtain ⟨c1, c2⟩ := stp_good b1
    refine ⟨?_, ?_, ?_, ?_⟩
    · rw [upd_ne (by omega), upd_ne (by omega), upd_ne (by omega), upd_eq]
    · rw [upd_ne (by omega), upd_ne (by omega), upd_eq, g1 b1]
    · rw [upd_ne (by omega), upd_eq, g2 a1, c2]
    · rw [upd_eq, g3 hg, b2, c2]
end OS
