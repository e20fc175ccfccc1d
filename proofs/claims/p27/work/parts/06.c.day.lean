/-! a day, sign by sign: the sign j has its code at 12 + 2 j, its strength behind it -/
def ljN (u : Nat → Nat) (j : Nat) : Nat := if j < 96 then lsN u (j / 2 / 16) (j / 2 % 16) else (u (2 + (j - 96) / 16) + u (3 + (j - 96) / 16)) / 2
/-- the numbers when the signs of S have lost -/
def dyU (u : Nat → Nat) (S : Nat → Bool) : Nat → Nat := fun k => if k < 12 ∨ 268 ≤ k then u k else if S ((k - 12) / 2) = true then (if k % 2 = 0 then (if u (k + 1) - ljN u ((k - 12) / 2) = 0 then 0 else u k) else u k - ljN u ((k - 12) / 2)) else u k
def gnN (u : Nat → Nat) (j : Nat) : Nat := if u (12 + 2 * j) = 0 then 0 else if u (13 + 2 * j) - ljN u j = 0 then 1 else 0
def gnS (u : Nat → Nat) (S : Nat → Bool) : Nat := sumN (fun j => if S j = true then gnN u j else 0) 128
def insS (S : Nat → Bool) (j : Nat) : Nat → Bool := fun i => S i || decide (i = j)
section DY
variable {u : Nat → Nat} {S S' : Nat → Bool} {j : Nat}
theorem dyU_low {k : Nat} (h : k < 12) : dyU u S k = u k := if_pos (Or.inl h)
theorem dyU_c (hj : j < 128) : dyU u S (12 + 2 * j) = if S j = true then (if u (13 + 2 * j) - ljN u j = 0 then 0 else u (12 + 2 * j)) else u (12 + 2 * j) := by
  unfold dyU
  rw [if_neg (by omega), show (12 + 2 * j - 12) / 2 = j by omega, if_pos (show (12 + 2 * j) % 2 = 0 by omega), show 12 + 2 * j + 1 = 13 + 2 * j by omega]
theorem dyU_s (hj : j < 128) : dyU u S (13 + 2 * j) = if S j = true then u (13 + 2 * j) - ljN u j else u (13 + 2 * j) := by
  unfold dyU
  rw [if_neg (by omega), show (13 + 2 * j - 12) / 2 = j by omega, if_neg (show ¬ (13 + 2 * j) % 2 = 0 by omega)]
theorem dyU_cn (hj : j < 128) (hS : S j = false) : dyU u S (12 + 2 * j) = u (12 + 2 * j) := by
  rw [dyU_c hj, if_neg (by rw [hS]; exact Bool.false_ne_true)]
theorem dyU_sn (hj : j < 128) (hS : S j = false) : dyU u S (13 + 2 * j) = u (13 + 2 * j) := by
  rw [dyU_s hj, if_neg (by rw [hS]; exact Bool.false_ne_true)]
theorem dyU_ext (h : ∀ j, j < 128 → S j = S' j) : dyU u S = dyU u S' := by
  funext k
  unfold dyU
  by_cases hk : k < 12 ∨ 268 ≤ k
  · rw [if_pos hk, if_pos hk]
  · rw [if_neg hk, if_neg hk, h ((k - 12) / 2) (by omega)]
theorem gnS_ext (h : ∀ j, j < 128 → S j = S' j) : gnS u S = gnS u S' := sumN_congr (fun j hj => by rw [h j hj])
theorem dyU_no (h : ∀ j, j < 128 → S j = false) : dyU u S = u := by
  funext k
  unfold dyU
  by_cases hk : k < 12 ∨ 268 ≤ k
  · rw [if_pos hk]
  · rw [if_neg hk, if_neg (by rw [h ((k - 12) / 2) (by omega)]; exact Bool.false_ne_true)]
theorem sumN_0 {f : Nat → Nat} {n : Nat} (h : ∀ i, i < n → f i = 0) : sumN f n = 0 := by
  induction n with
  | zero => rfl
  | succ n ih => rw [sumN, ih (fun i hi => h i (by omega)), h n (by omega)]
theorem gnS_no (h : ∀ j, j < 128 → S j = false) : gnS u S = 0 := sumN_0 (fun j hj => if_neg (by rw [h j hj]; exact Bool.false_ne_true))
theorem insS_j : insS S j j = true := by unfold insS; rw [decide_eq_true rfl, Bool.or_true]
theorem insS_n {i : Nat} (h : i ≠ j) : insS S j i = S i := by unfold insS; rw [decide_eq_false h, Bool.or_false]
theorem dyU_ins (hj : j < 128) (hS : S j = false) (h0 : u (12 + 2 * j) = 0 ↔ u (13 + 2 * j) = 0) : lsU (dyU u S) (12 + 2 * j) (ljN u j) = dyU u (insS S j) := by
  have c1 := dyU_cn (u := u) hj hS
  have c2 := dyU_sn (u := u) hj hS
  have d1 : dyU u (insS S j) (12 + 2 * j) = if u (13 + 2 * j) - ljN u j = 0 then 0 else u (12 + 2 * j) := by rw [dyU_c hj, if_pos insS_j]
  have d2 : dyU u (insS S j) (13 + 2 * j) = u (13 + 2 * j) - ljN u j := by rw [dyU_s hj, if_pos insS_j]
  have dn : ∀ k, k ≠ 12 + 2 * j → k ≠ 13 + 2 * j → dyU u (insS S j) k = dyU u S k := by
    intro k h1 h2
    unfold dyU
    by_cases hk : k < 12 ∨ 268 ≤ k
    · rw [if_pos hk, if_pos hk]
    · rw [if_neg hk, if_neg hk, insS_n (show (k - 12) / 2 ≠ j by omega)]
  funext k
  unfold lsU
  rw [show 12 + 2 * j + 1 = 13 + 2 * j by omega, c1, c2]
  by_cases e0 : u (12 + 2 * j) = 0
  · rw [if_pos e0]
    have e1 := h0.mp e0
    by_cases k1 : k = 12 + 2 * j
    · rw [k1, c1, d1, e1, Nat.zero_sub, if_pos rfl]; exact e0
    · by_cases k2 : k = 13 + 2 * j
      · rw [k2, c2, d2, e1, Nat.zero_sub]
      · exact (dn k k1 k2).symm
  · rw [if_neg e0]
    by_cases k1 : k = 12 + 2 * j
    · rw [k1, set2_0, d1]
    · by_cases k2 : k = 13 + 2 * j
      · rw [k2, d2, show 13 + 2 * j = 12 + 2 * j + 1 by omega, set2_1]
      · rw [set2_n k1 (by omega), dn k k1 k2]
theorem sum_ins {g : Nat → Nat} (hS : S j = false) : ∀ n, sumN (fun i => if insS S j i = true then g i else 0) n = sumN (fun i => if S i = true then g i else 0) n + if j < n then g j else 0 := by
  intro n
  induction n with
  | zero => rw [if_neg (by omega)]; rfl
  | succ n ih =>
    rw [sumN, sumN, ih]
    by_cases e : n = j
    · subst e
      rw [if_neg (by omega), if_pos insS_j, if_neg (show ¬ S n = true by rw [hS]; exact Bool.false_ne_true), if_pos (by omega)]
    · rw [insS_n (by omega)]
      by_cases h : j < n
      · rw [if_pos h, if_pos (show j < n + 1 by omega)]; omega
      · rw [if_neg h, if_neg (show ¬ j < n + 1 by omega)]; omega
theorem gnS_ins (hj : j < 128) (hS : S j = false) : gnS u (insS S j) = gnS u S + gnN u j := by
  unfold gnS
  rw [sum_ins hS, if_pos hj]
theorem ljN_a {l b : Nat} (hl : l < 3) (hb : b < 16) : ljN u (2 * (16 * l + b)) = lsN u l b := by
  unfold ljN
  rw [if_pos (by omega), show 2 * (16 * l + b) / 2 / 16 = l by omega, show 2 * (16 * l + b) / 2 % 16 = b by omega]
theorem ljN_w {l b : Nat} (hl : l < 3) (hb : b < 16) : ljN u (2 * (16 * l + b) + 1) = lsN u l b := by
  unfold ljN
  rw [if_pos (by omega), show (2 * (16 * l + b) + 1) / 2 / 16 = l by omega, show (2 * (16 * l + b) + 1) / 2 % 16 = b by omega]
theorem ljN_d {l b : Nat} (hl : l < 2) (hb : b < 16) : ljN u (96 + (16 * l + b)) = (u (2 + l) + u (3 + l)) / 2 := by
  unfold ljN
  rw [if_neg (by omega), show (96 + (16 * l + b) - 96) / 16 = l by omega]
theorem ljN_le (hu : UOk u) (hj : j < 128) : ljN u j ≤ 20 := by
  unfold ljN
  by_cases h : j < 96
  · rw [if_pos h]
    have h1 := hu.T (show j / 2 / 16 < 3 by omega)
    unfold lsN
    split <;> omega
  · rw [if_neg h]
    have h1 := hu.T (show (j - 96) / 16 < 3 by omega)
    have h2 := hu.T (show (j - 96) / 16 + 1 < 3 by omega)
    rw [show 2 + ((j - 96) / 16 + 1) = 3 + (j - 96) / 16 by omega] at h2
    omega
theorem sgn0 (hu : UOk u) (hj : j < 128) : (u (12 + 2 * j) = 0 ↔ u (13 + 2 * j) = 0) ∧ u (13 + 2 * j) ≤ 100 ∧ u (12 + 2 * j) ≤ 4 := by
  by_cases h : j < 96
  · by_cases h2 : j % 2 = 0
    · have g := hu.A (show j / 2 < 48 by omega)
      rw [show 12 + 4 * (j / 2) = 12 + 2 * j by omega, show 13 + 4 * (j / 2) = 13 + 2 * j by omega] at g
      exact ⟨g.2.1, g.1, by omega⟩
    · have g := hu.W (show j / 2 < 48 by omega)
      rw [show 14 + 4 * (j / 2) = 12 + 2 * j by omega, show 15 + 4 * (j / 2) = 13 + 2 * j by omega] at g
      exact ⟨g.2.1, g.1, by omega⟩
  · have g := hu.D (show j - 96 < 32 by omega)
    rw [show 204 + 2 * (j - 96) = 12 + 2 * j by omega, show 205 + 2 * (j - 96) = 13 + 2 * j by omega] at g
    exact ⟨g.2.1, g.1, by omega⟩
end DY
/-- the class's order: mile by mile, lanes, then lines -/
def ky (j : Nat) : Nat := if j < 96 then 5 * (j / 2 % 16) + j / 2 / 16 else 5 * ((j - 96) % 16) + 3 + (j - 96) / 16
def kS (n : Nat) : Nat → Bool := fun j => decide (ky j < n)
theorem kS_cell {l b : Nat} (hl : l < 3) (hb : b < 16) {j : Nat} (hj : j < 128) : kS (5 * b + l + 1) j = insS (insS (kS (5 * b + l)) (2 * (16 * l + b))) (2 * (16 * l + b) + 1) j := by
  unfold kS insS
  rw [Bool.eq_iff_iff]
  simp only [Bool.or_eq_true, decide_eq_true_eq]
  unfold ky
  by_cases h96 : j < 96
  · simp only [if_pos h96]
    have hd : j / 2 / 16 = 0 ∨ j / 2 / 16 = 1 ∨ j / 2 / 16 = 2 := by omega
    have hl' : l = 0 ∨ l = 1 ∨ l = 2 := by omega
    rcases hd with hd | hd | hd <;> rcases hl' with rfl | rfl | rfl <;> omega
  · simp only [if_neg h96]
    have hd : (j - 96) / 16 = 0 ∨ (j - 96) / 16 = 1 := by omega
    have hl' : l = 0 ∨ l = 1 ∨ l = 2 := by omega
    rcases hd with hd | hd <;> rcases hl' with rfl | rfl | rfl <;> omega
theorem kS_line {l b : Nat} (hl : l < 2) (hb : b < 16) {j : Nat} (hj : j < 128) : kS (5 * b + 3 + l + 1) j = insS (kS (5 * b + 3 + l)) (96 + (16 * l + b)) j := by
  unfold kS insS
  rw [Bool.eq_iff_iff]
  simp only [Bool.or_eq_true, decide_eq_true_eq]
  unfold ky
  by_cases h96 : j < 96
  · simp only [if_pos h96]
    have hd : j / 2 / 16 = 0 ∨ j / 2 / 16 = 1 ∨ j / 2 / 16 = 2 := by omega
    have hl' : l = 0 ∨ l = 1 := by omega
    rcases hd with hd | hd | hd <;> rcases hl' with rfl | rfl <;> omega
  · simp only [if_neg h96]
    have hd : (j - 96) / 16 = 0 ∨ (j - 96) / 16 = 1 := by omega
    have hl' : l = 0 ∨ l = 1 := by omega
    rcases hd with hd | hd <;> rcases hl' with rfl | rfl <;> omega
theorem kS_a {l b : Nat} (hl : l < 3) (hb : b < 16) : kS (5 * b + l) (2 * (16 * l + b)) = false := decide_eq_false (by unfold ky; rw [if_pos (by omega)]; omega)
theorem kS_w {l b : Nat} (hl : l < 3) (hb : b < 16) : kS (5 * b + l) (2 * (16 * l + b) + 1) = false := decide_eq_false (by unfold ky; rw [if_pos (by omega)]; omega)
theorem kS_d {l b : Nat} (hl : l < 2) (hb : b < 16) : kS (5 * b + 3 + l) (96 + (16 * l + b)) = false := decide_eq_false (by unfold ky; rw [if_neg (by omega)]; omega)
section DC
variable {u : Nat → Nat} {S : Nat → Bool} {r r0 : TX3s}
theorem nIif (p : Prop) [Decidable p] (x y : Nat) : nI (if p then x else y) = if p then nI x else nI y := by split <;> rfl
theorem dayc (hr : RdU (dyU u S) r) (hu : UOk (dyU u S)) (h0 : UOk u) {l b : Nat} (hl : l < 3) (hb : b < 16) (n1 : S (2 * (16 * l + b)) = false) (n2 : S (2 * (16 * l + b) + 1) = false) : ∃ r', (∀ a4 x4 k4 k acc, f_X3_passDay_l12 k4 (a4, nI b, x4) k (nI acc, nI l, r) = k (nI (acc + (gnN u (2 * (16 * l + b)) + gnN u (2 * (16 * l + b) + 1))), nI (l + 1), r')) ∧ RdU (dyU u (insS (insS S (2 * (16 * l + b))) (2 * (16 * l + b) + 1))) r' ∧ UOk (dyU u (insS (insS S (2 * (16 * l + b))) (2 * (16 * l + b) + 1))) ∧ r'.2.2.2 = r.2.2.2 := by
  have pa : 12 + 4 * (16 * l + b) = 12 + 2 * (2 * (16 * l + b)) := by omega
  have pw : 14 + 4 * (16 * l + b) = 12 + 2 * (2 * (16 * l + b) + 1) := by omega
  have ps : 12 + 2 * (2 * (16 * l + b)) + 1 = 13 + 2 * (2 * (16 * l + b)) := by omega
  have pt : 12 + 2 * (2 * (16 * l + b) + 1) + 1 = 13 + 2 * (2 * (16 * l + b) + 1) := by omega
  have hls : lsN (dyU u S) l b = lsN u l b := by
    unfold lsN
    rw [pw, show 15 + 4 * (16 * l + b) = 13 + 2 * (2 * (16 * l + b) + 1) by omega, dyU_cn (by omega) n2, dyU_sn (by omega) n2, dyU_low (by omega), dyU_low (by omega)]
  have hle : lsN u l b ≤ 20 := by rw [← ljN_a hl hb]; exact ljN_le h0 (by omega)
  have hL := lossAt_u hr hu hl hb
  rw [hls] at hL
  obtain ⟨s1, e1, hr1, hu1⟩ := lsA hr hu hl hb (show lsN u l b ≤ 1000 by omega)
  rw [pa, ps, dyU_cn (by omega) n1, dyU_sn (by omega) n1] at e1
  rw [pa, ← ljN_a hl hb, dyU_ins (by omega) n1 (sgn0 h0 (by omega)).1] at hr1 hu1
  have n3 : insS S (2 * (16 * l + b)) (2 * (16 * l + b) + 1) = false := by rw [insS_n (by omega)]; exact n2
  obtain ⟨s2, e2, hr2, hu2⟩ := lsW hr1 hu1 hl hb (show lsN u l b ≤ 1000 by omega)
  rw [pw, pt, dyU_cn (by omega) n3, dyU_sn (by omega) n3] at e2
  rw [pw, ← ljN_w hl hb, dyU_ins (by omega) n3 (sgn0 h0 (by omega)).1] at hr2 hu2
  refine ⟨(s1, s2, r.2.2), ?_, hr2, hu2, rfl⟩
  intro a4 x4 k4 k acc
  unfold f_X3_passDay_l12
  simp only [nI_1, li3, leN (show 3 < 2 ^ 31 by omega) (show l < 2 ^ 31 by omega), show ¬ 3 ≤ l by omega, ↓reduceIte, hL, Option.bind_some, e1, e2]
  rw [Int32.add_comm (if u (12 + 2 * (2 * (16 * l + b) + 1)) = 0 then (0 : Int32) else _)]
  have q1 : (if u (12 + 2 * (2 * (16 * l + b))) = 0 then (0 : Int32) else if u (13 + 2 * (2 * (16 * l + b))) - lsN u l b = 0 then 1 else 0) = nI (gnN u (2 * (16 * l + b))) := by
    unfold gnN
    rw [ljN_a hl hb, nIif, nIif]; rfl
  have q2 : (if u (12 + 2 * (2 * (16 * l + b) + 1)) = 0 then (0 : Int32) else if u (13 + 2 * (2 * (16 * l + b) + 1)) - lsN u l b = 0 then 1 else 0) = nI (gnN u (2 * (16 * l + b) + 1)) := by
    unfold gnN
    rw [ljN_w hl hb, nIif, nIif]; rfl
  rw [q1, q2, nI_add, nI_add]
theorem dayd (hr : RdU (dyU u S) r) (hu : UOk (dyU u S)) (h0 : UOk u) {l b : Nat} (hl : l < 2) (hb : b < 16) (n1 : S (96 + (16 * l + b)) = false) : ∃ r', (∀ a4 x4 k4 k acc, f_X3_passDay_l59 k4 (a4, nI b, x4) k (nI acc, nI l, r) = k (nI (acc + gnN u (96 + (16 * l + b))), nI (l + 1), r')) ∧ RdU (dyU u (insS S (96 + (16 * l + b)))) r' ∧ UOk (dyU u (insS S (96 + (16 * l + b)))) ∧ r'.2.2.2 = r.2.2.2 := by
  have pd : 204 + 2 * (16 * l + b) = 12 + 2 * (96 + (16 * l + b)) := by omega
  have pe : 12 + 2 * (96 + (16 * l + b)) + 1 = 13 + 2 * (96 + (16 * l + b)) := by omega
  have t0 := h0.T (show l < 3 by omega)
  have t1 := h0.T (show l + 1 < 3 by omega)
  rw [show 2 + (l + 1) = 3 + l by omega] at t1
  obtain ⟨s', e1, hr', hu'⟩ := lsD hr hu hl hb (show (u (2 + l) + u (3 + l)) / 2 ≤ 1000 by omega)
  rw [pd, pe, dyU_cn (by omega) n1, dyU_sn (by omega) n1] at e1
  rw [pd, ← ljN_d hl hb, dyU_ins (by omega) n1 (sgn0 h0 (by omega)).1] at hr' hu'
  refine ⟨(r.1, r.2.1, s', r.2.2.2), ?_, hr', hu', rfl⟩
  intro a4 x4 k4 k acc
  have r1 := hr.2.2.2.1 l (by omega)
  have r2 := hr.2.2.2.1 (l + 1) (by omega)
  rw [dyU_low (by omega)] at r1 r2
  unfold f_X3_passDay_l59
  simp only [nI_1, li2, leN (show 2 < 2 ^ 31 by omega) (show l < 2 ^ 31 by omega), show ¬ 2 ≤ l by omega, ↓reduceIte, nI_clamp (show l < 2 ^ 31 by omega), nI_clamp (show l + 1 < 2 ^ 31 by omega), g_in2 (show l < 3 by omega) (by omega), g_in2 (show l + 1 < 3 by omega) (by omega), r1, r2, show 2 + (l + 1) = 3 + l by omega, nI_add, pk_div (show u (2 + l) + u (3 + l) < 2 ^ 31 by omega) (show 0 < 2 by omega) (show 2 < 2 ^ 31 by omega), e1, Option.bind_some]
  have q1 : (if u (12 + 2 * (96 + (16 * l + b))) = 0 then (0 : Int32) else if u (13 + 2 * (96 + (16 * l + b))) - (u (2 + l) + u (3 + l)) / 2 = 0 then 1 else 0) = nI (gnN u (96 + (16 * l + b))) := by
    unfold gnN
    rw [ljN_d hl hb, nIif, nIif]; rfl
  rw [q1, nI_add]
/-- the class behind n rows of a day -/
def DCn (u : Nat → Nat) (r0 : TX3s) (n : Nat) (acc : Int32) (r : TX3s) : Prop := acc = nI (gnS u (kS n)) ∧ RdU (dyU u (kS n)) r ∧ UOk (dyU u (kS n)) ∧ r.2.2.2 = r0.2.2.2
theorem DCn.cell (h0 : UOk u) {l b : Nat} (hl : l < 3) (hb : b < 16) {acc : Int32} (h : DCn u r0 (5 * b + l) acc r) : ∃ acc' r', (∀ a4 x4 k4 k, f_X3_passDay_l12 k4 (a4, nI b, x4) k (acc, nI l, r) = k (acc', nI (l + 1), r')) ∧ DCn u r0 (5 * b + l + 1) acc' r' := by
  obtain ⟨rfl, hr, hu, h4⟩ := h
  have n3 : insS (kS (5 * b + l)) (2 * (16 * l + b)) (2 * (16 * l + b) + 1) = false := by rw [insS_n (by omega)]; exact kS_w hl hb
  obtain ⟨r', g1, g2, g3, g4⟩ := dayc hr hu h0 hl hb (kS_a hl hb) (kS_w hl hb)
  rw [← dyU_ext (fun j hj => kS_cell hl hb hj)] at g2 g3
  refine ⟨_, r', fun a4 x4 k4 k => g1 a4 x4 k4 k _, ?_, g2, g3, g4.trans h4⟩
  rw [gnS_ext (fun j hj => kS_cell hl hb hj), gnS_ins (by omega) n3, gnS_ins (by omega) (kS_a hl hb), Nat.add_assoc]
theorem DCn.line (h0 : UOk u) {l b : Nat} (hl : l < 2) (hb : b < 16) {acc : Int32} (h : DCn u r0 (5 * b + 3 + l) acc r) : ∃ acc' r', (∀ a4 x4 k4 k, f_X3_passDay_l59 k4 (a4, nI b, x4) k (acc, nI l, r) = k (acc', nI (l + 1), r')) ∧ DCn u r0 (5 * b + 3 + l + 1) acc' r' := by
  obtain ⟨rfl, hr, hu, h4⟩ := h
  obtain ⟨r', g1, g2, g3, g4⟩ := dayd hr hu h0 hl hb (kS_d hl hb)
  rw [← dyU_ext (fun j hj => kS_line hl hb hj)] at g2 g3
  refine ⟨_, r', fun a4 x4 k4 k => g1 a4 x4 k4 k _, ?_, g2, g3, g4.trans h4⟩
  rw [gnS_ext (fun j hj => kS_line hl hb hj), gnS_ins (by omega) (kS_d hl hb)]
theorem DCn.mile (h0 : UOk u) {b : Nat} (hb : b < 16) {acc : Int32} (h : DCn u r0 (5 * b) acc r) (k : (Int32 × Int32 × TX3s) → Option (Int32 × TX3s)) : ∃ acc' r', f_X3_passDay_l4 k (acc, nI b, r) = k (acc', nI (b + 1), r') ∧ DCn u r0 (5 * (b + 1)) acc' r' := by
  obtain ⟨⟨a1, a2, a3⟩, m, ⟨e1, e2⟩, e3⟩ := lp_for1 (f_X3_passDay_l12 k (acc, nI b, r)) (fun j a => a.2.1 = nI j ∧ DCn u r0 (5 * b + j) a.1 a.2.2) 3 (by
    rintro j hj ⟨a1, a2, a3⟩ ⟨e1, hD⟩
    simp only at e1 hD
    subst e1
    obtain ⟨acc', r', g1, g2⟩ := hD.cell h0 hj hb
    exact ⟨(acc', nI (j + 1), r'), ⟨rfl, g2⟩, fun k2 => g1 _ _ _ k2⟩) (a := (acc, 0, r)) ⟨rfl, h⟩ (by omega)
  simp only at e1 e2
  subst e1
  obtain ⟨⟨c1, c2, c3⟩, m', ⟨q1, q2⟩, q3⟩ := lp_for1 (f_X3_passDay_l59 k (acc, nI b, r)) (fun j a => a.2.1 = nI j ∧ DCn u r0 (5 * b + 3 + j) a.1 a.2.2) 2 (by
    rintro j hj ⟨a1, a2, a3⟩ ⟨e1, hD⟩
    simp only at e1 hD
    subst e1
    obtain ⟨acc', r', g1, g2⟩ := hD.line h0 hj hb
    exact ⟨(acc', nI (j + 1), r'), ⟨rfl, g2⟩, fun k2 => g1 _ _ _ k2⟩) (a := (a1, 0, a3)) ⟨rfl, e2⟩ (by omega)
  simp only at q1 q2
  subst q1
  refine ⟨c1, c3, ?_, ?_⟩
  · unfold f_X3_passDay_l4
    rw [if_neg (by show ¬ (16 : Int32) ≤ nI b; rw [li16, nI_leI (by omega) (by omega)]; omega), e3]
    unfold f_X3_passDay_l12
    rw [if_pos (show (3 : Int32) ≤ nI 3 by decide), q3]
    unfold f_X3_passDay_l59
    rw [if_pos (show (2 : Int32) ≤ nI 2 by decide)]
    exact congrArg (fun z => k (c1, z, c3)) (nI_1 b)
  · rw [show 5 * (b + 1) = 5 * b + 3 + 2 by omega]
    exact q2
def tt : Nat → Bool := fun _ => true
/-- a day in the class -/
theorem dayC_u (hr : RdU u r) (hu : UOk u) : ∃ r', f_X3_passDay r = some (nI (gnS u tt), r') ∧ RdU (dyU u tt) r' ∧ UOk (dyU u tt) ∧ r'.2.2.2 = r.2.2.2 := by
  have k0 : ∀ j, j < 128 → kS (5 * 0) j = false := fun j _ => decide_eq_false (by omega)
  have kx : ∀ j, j < 128 → kS (5 * 16) j = tt j := by
    intro j hj
    unfold kS tt
    refine decide_eq_true ?_
    unfold ky
    split <;> omega
  unfold f_X3_passDay
  refine lpN_rule f_X3_passDay_l4 (fun _ res => ∃ r', res = some (nI (gnS u tt), r') ∧ RdU (dyU u tt) r' ∧ UOk (dyU u tt) ∧ r'.2.2.2 = r.2.2.2) (fun a => ∃ j, j ≤ 16 ∧ a.2.1 = nI j ∧ DCn u r (5 * j) a.1 a.2.2) (fun a => 16 - a.2.1.toNatClampNeg) ?_ 3000 (0, 0, r) ⟨0, by omega, rfl, by rw [gnS_no k0]; rfl, by rw [dyU_no k0]; exact hr, by rw [dyU_no k0]; exact hu, rfl⟩ (by show 16 - (0 : Int32).toNatClampNeg < 3000; omega)
  rintro k ⟨a1, a2, a3⟩ ⟨j, hj, e1, hD⟩ hk
  simp only at e1 hD
  subst e1
  by_cases h16 : j = 16
  · subst h16
    obtain ⟨e2, e3, e4, e5⟩ := hD
    rw [gnS_ext kx] at e2
    rw [dyU_ext kx] at e3 e4
    unfold f_X3_passDay_l4
    rw [if_pos (show (16 : Int32) ≤ nI 16 by decide), e2]
    exact ⟨a3, rfl, e3, e4, e5⟩
  · obtain ⟨acc', r', g1, g2⟩ := hD.mile hu (show j < 16 by omega) k
    rw [g1]
    refine hk _ ⟨j + 1, by omega, rfl, g2⟩ ?_
    show 16 - (nI (j + 1)).toNatClampNeg < 16 - (nI j).toNatClampNeg
    rw [nI_clamp (by omega), nI_clamp (by omega)]; omega
end DC
