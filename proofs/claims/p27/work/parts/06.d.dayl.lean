/-! a day in the law -/
abbrev TD : Type := Int32 × Int32 × TV48s × TV48s × TV48s × TV48s × TV32s × TV32s × TV10s
abbrev TE : Type := Int32 × TV48s × TV48s × TV48s × TV48s × TV32s × TV32s × TV10s
theorem subS {β : Type} (X : Int32 → β) {l P : Nat} (hl : l < 2 ^ 30) (hP : P < 2 ^ 30) : (if nI l ≤ nI P then X (nI P - nI l) else X 0) = X (nI (P - l)) := by
  by_cases h : l ≤ P
  · rw [if_pos (by rw [nI_leI (by omega) (by omega)]; exact h), pk_sub h]
  · rw [if_neg (by rw [nI_leI (by omega) (by omega)]; exact h), show P - l = 0 by omega]
    rfl
theorem dyU_ok {u : Nat → Nat} {S : Nat → Bool} (h : UOk u) : UOk (dyU u S) := by
  have key : ∀ j, j < 128 → dyU u S (13 + 2 * j) ≤ 100 ∧ (dyU u S (12 + 2 * j) = 0 ↔ dyU u S (13 + 2 * j) = 0) ∧ dyU u S (12 + 2 * j) ≤ u (12 + 2 * j) := by
    intro j hj
    obtain ⟨g1, g2, g3⟩ := sgn0 h hj
    rw [dyU_c hj, dyU_s hj]
    by_cases hS : S j = true
    · simp only [if_pos hS]
      by_cases h0 : u (13 + 2 * j) - ljN u j = 0
      · rw [if_pos h0]; omega
      · rw [if_neg h0]; omega
    · simp only [if_neg hS]
      omega
  refine ⟨fun i hi => ?_, fun i hi => ?_, fun i hi => ?_, ?_, ?_, fun i hi => ?_, ?_⟩
  · have k := key (2 * i) (by omega)
    have g := h.A hi
    rw [show 12 + 4 * i + 1 = 13 + 2 * (2 * i) by omega, show 12 + 4 * i = 12 + 2 * (2 * i) by omega]
    rw [show 12 + 4 * i = 12 + 2 * (2 * i) by omega] at g
    exact ⟨k.1, k.2.1, by omega⟩
  · have k := key (2 * i + 1) (by omega)
    have g := h.W hi
    rw [show 14 + 4 * i + 1 = 13 + 2 * (2 * i + 1) by omega, show 14 + 4 * i = 12 + 2 * (2 * i + 1) by omega]
    rw [show 14 + 4 * i = 12 + 2 * (2 * i + 1) by omega] at g
    exact ⟨k.1, k.2.1, by omega⟩
  · have k := key (96 + i) (by omega)
    have g := h.D hi
    rw [show 204 + 2 * i + 1 = 13 + 2 * (96 + i) by omega, show 204 + 2 * i = 12 + 2 * (96 + i) by omega]
    rw [show 204 + 2 * i = 12 + 2 * (96 + i) by omega] at g
    exact ⟨k.1, k.2.1, by omega⟩
  · rw [dyU_low (by omega)]; exact h.s0
  · rw [dyU_low (by omega)]; exact h.s1
  · rw [dyU_low (by omega)]; exact h.T hi
  · rw [dyU_low (by omega)]; exact h.c5
theorem dyU_n {u : Nat → Nat} {S : Nat → Bool} {j k : Nat} (h : k < 12 ∨ (k - 12) / 2 ≠ j) : dyU u (insS S j) k = dyU u S k := by
  unfold dyU
  by_cases hk : k < 12 ∨ 268 ≤ k
  · rw [if_pos hk, if_pos hk]
  · rw [if_neg hk, if_neg hk, insS_n (show (k - 12) / 2 ≠ j by omega)]
section DL
variable {u : Nat → Nat} {S : Nat → Bool} {a p w q d e t : Nat → Int32} {g i : Nat}
theorem day61 (k : TD → Option TE) (hi : i < 48) {l P Q : Nat} (hl : l ≤ 1000) (hP : P ≤ 1000) (hQ : Q ≤ 1000) (eP : p i = nI P) (eQ : q i = nI Q) : f_L_day_j61 k (nI g, nI i, a, p, w, q, d, e, t) (nI l) = f_L_day_j110 k (nI g, nI i, a, p, w, q, d, e, t) (nI (P - l)) (nI (Q - l)) := by
  unfold f_L_day_j61 f_L_day_j86
  simp only [nI_clamp (show i < 2 ^ 31 by omega), g_in2 (show i < 48 by omega) (by omega), ↓reduceIte, eP, eQ]
  exact (subS (fun z => if nI l ≤ nI Q then f_L_day_j110 k (nI g, nI i, a, p, w, q, d, e, t) z (nI Q - nI l) else f_L_day_j110 k (nI g, nI i, a, p, w, q, d, e, t) z 0) (by omega) (by omega)).trans (subS (fun z => f_L_day_j110 k (nI g, nI i, a, p, w, q, d, e, t) (nI (P - l)) z) (by omega) (by omega))
theorem day110 (k : TD → Option TE) (hi : i < 48) {A C P Q : Nat} (hA : A ≤ 1000) (hC : C ≤ 1000) (hP : P ≤ 1000) (hQ : Q ≤ 1000) (eA : a i = wv A) (eC : w i = wv C) : f_L_day_j110 k (nI g, nI i, a, p, w, q, d, e, t) (nI P) (nI Q) = f_L_day_j151 k (nI g, nI i, a, p, w, q, d, e, t) (nI P) (nI Q) (nI (if A = 0 then 0 else if P = 0 then 1 else 0)) (nI (if C = 0 then 0 else if Q = 0 then 1 else 0)) := by
  unfold f_L_day_j110 f_L_day_j131 f_L_day_j132 f_L_day_j150
  simp only [nI_clamp (show i < 2 ^ 31 by omega), g_in2 (show i < 48 by omega) (by omega), ↓reduceIte, eA, eC, wv_neg (show A < 2 ^ 30 by omega), wv_neg (show C < 2 ^ 30 by omega), upd_eq, eq0 (show P < 2 ^ 31 by omega), eq0 (show Q < 2 ^ 31 by omega)]
  by_cases h1 : A = 0 <;> by_cases h2 : P = 0 <;> by_cases h3 : C = 0 <;> by_cases h4 : Q = 0 <;> simp only [h1, h2, h3, h4, ↓reduceIte] <;> rfl
theorem day151 (k : TD → Option TE) (hi : i < 48) {A C P Q g1 g2 : Nat} (hP : P ≤ 1000) (hQ : Q ≤ 1000) (eA : a i = wv A) (eC : w i = wv C) : f_L_day_j151 k (nI g, nI i, a, p, w, q, d, e, t) (nI P) (nI Q) (nI g1) (nI g2) = k (nI (g + (g1 + g2)), nI (i + 1), upd a i (wv (if P = 0 then 0 else A)), upd p i (nI P), upd w i (wv (if Q = 0 then 0 else C)), upd q i (nI Q), d, e, t) := by
  unfold f_L_day_j151 f_L_day_j173
  simp only [nI_clamp (show i < 2 ^ 31 by omega), g_in2 (show i < 48 by omega) (by omega), ↓reduceIte, eA, eC, upd_eq, eq0 (show P < 2 ^ 31 by omega), eq0 (show Q < 2 ^ 31 by omega), nI_add, nI_1]
  by_cases h2 : P = 0 <;> by_cases h4 : Q = 0 <;> simp only [h2, h4, ↓reduceIte] <;> rfl
theorem day6 (h : AR (dyU u S) a p w q d e t) (h0 : UOk u) (hi : i < 48) (n1 : S (2 * i) = false) (n2 : S (2 * i + 1) = false) : ∃ a' p' w' q', (∀ k, f_L_day_l6 k (nI g, nI i, a, p, w, q, d, e, t) = k (nI (g + (gnN u (2 * i) + gnN u (2 * i + 1))), nI (i + 1), a', p', w', q', d, e, t)) ∧ AR (dyU u (insS (insS S (2 * i)) (2 * i + 1))) a' p' w' q' d e t := by
  obtain ⟨e1, e2, e3, e4⟩ := h.1 i hi
  have hrd := read_u h (dyU_ok h0) hi
  have t1 := h.2.2 (2 + i / 16) (by omega)
  rw [dyU_low (by omega)] at t1
  have pA : 12 + 4 * i = 12 + 2 * (2 * i) := by omega
  have pP : 13 + 4 * i = 13 + 2 * (2 * i) := by omega
  have pW : 14 + 4 * i = 12 + 2 * (2 * i + 1) := by omega
  have pQ : 15 + 4 * i = 13 + 2 * (2 * i + 1) := by omega
  have hr2 : rdN (dyU u S) i = rdN u i := by
    unfold rdN
    rw [pQ, dyU_sn (by omega) n2, dyU_low (by omega)]
  rw [hr2] at hrd
  rw [pA, dyU_cn (by omega) n1] at e1
  rw [pP, dyU_sn (by omega) n1] at e2
  rw [pW, dyU_cn (by omega) n2] at e3
  rw [pQ, dyU_sn (by omega) n2] at e4
  have e16 : 16 * (i / 16) + i % 16 = i := by omega
  have L1 := ljN_a (u := u) (show i / 16 < 3 by omega) (show i % 16 < 16 by omega)
  have L2 := ljN_w (u := u) (show i / 16 < 3 by omega) (show i % 16 < 16 by omega)
  rw [e16] at L1 L2
  have L3 : ljN u (2 * i + 1) = ljN u (2 * i) := by rw [L1, L2]
  have hL := ljN_le h0 (show 2 * i < 128 by omega)
  have sA := sgn0 h0 (show 2 * i < 128 by omega)
  have sW := sgn0 h0 (show 2 * i + 1 < 128 by omega)
  have hT := h0.T (show i / 16 < 3 by omega)
  have main : ∀ k, f_L_day_l6 k (nI g, nI i, a, p, w, q, d, e, t) = f_L_day_j61 k (nI g, nI i, a, p, w, q, d, e, t) (nI (ljN u (2 * i))) := by
    intro k
    have hLd : ljN u (2 * i) = if (u (12 + 2 * (2 * i + 1)) = 1 ∨ u (12 + 2 * (2 * i + 1)) = 2) ∧ ¬ u (13 + 2 * (2 * i + 1)) < u 0 then u (2 + i / 16) / 2 else u (2 + i / 16) := by
      rw [L1]
      unfold lsN
      rw [e16, pW, pQ]
    unfold f_L_day_l6 f_L_day_j40 f_L_day_j59
    simp only [li48, leN (show 48 < 2 ^ 31 by omega) (show i < 2 ^ 31 by omega), show ¬ 48 ≤ i by omega, nI_pos (show i < 2 ^ 31 by omega), ↓reduceIte, li16, pk_div (show i < 2 ^ 31 by omega) (show 0 < 16 by omega) (show 16 < 2 ^ 31 by omega), li2, nI_add, nI_clamp (show 2 + i / 16 < 2 ^ 31 by omega), g_in2 (show 2 + i / 16 < 10 by omega) (by omega), nI_clamp (show i < 2 ^ 31 by omega), g_in2 (show i < 48 by omega) (by omega), e3, t1, wv_lit li0 (show u (12 + 2 * (2 * i + 1)) < 2 ^ 30 by omega) (by omega), wv_lit li1 (show u (12 + 2 * (2 * i + 1)) < 2 ^ 30 by omega) (by omega), hrd, Option.bind_some, eq0 (show rdN u i < 2 ^ 31 by unfold rdN; split <;> omega), pk_div (show u (2 + i / 16) < 2 ^ 31 by omega) (show 0 < 2 by omega) (show 2 < 2 ^ 31 by omega)]
    rw [hLd]
    unfold rdN
    rw [pQ]
    generalize u (12 + 2 * (2 * i + 1)) = C
    generalize u (13 + 2 * (2 * i + 1)) = Q
    generalize u (2 + i / 16) = T
    by_cases c1 : C = 1
    · by_cases c3 : Q < u 0 <;> simp [c1, c3]
    · by_cases c2 : C = 2
      · by_cases c3 : Q < u 0 <;> simp [c2, c3]
      · simp [c1, c2]
  refine ⟨upd a i (wv (if u (13 + 2 * (2 * i)) - ljN u (2 * i) = 0 then 0 else u (12 + 2 * (2 * i)))), upd p i (nI (u (13 + 2 * (2 * i)) - ljN u (2 * i))), upd w i (wv (if u (13 + 2 * (2 * i + 1)) - ljN u (2 * i) = 0 then 0 else u (12 + 2 * (2 * i + 1)))), upd q i (nI (u (13 + 2 * (2 * i + 1)) - ljN u (2 * i))), fun k => ?_, ?_⟩
  · rw [main k, day61 k hi (by omega) (show u (13 + 2 * (2 * i)) ≤ 1000 by omega) (show u (13 + 2 * (2 * i + 1)) ≤ 1000 by omega) e2 e4, day110 k hi (show u (12 + 2 * (2 * i)) ≤ 1000 by omega) (show u (12 + 2 * (2 * i + 1)) ≤ 1000 by omega) (by omega) (by omega) e1 e3, day151 k hi (by omega) (by omega) e1 e3]
    unfold gnN
    rw [L3]
  · refine h.cell (i := i) (fun k hk hk2 => ?_) hi (fun j hj => ⟨upd_ne hj, upd_ne hj, upd_ne hj, upd_ne hj⟩) ?_ ?_ ?_ ?_
    · rw [dyU_n (by omega), dyU_n (by omega)]
    · rw [upd_eq, pA, dyU_c (by omega), insS_n (by omega), insS_j, if_pos rfl]
    · rw [upd_eq, pP, dyU_s (by omega), insS_n (by omega), insS_j, if_pos rfl]
    · rw [upd_eq, pW, dyU_c (by omega), insS_j, if_pos rfl, L3]
    · rw [upd_eq, pQ, dyU_s (by omega), insS_j, if_pos rfl, L3]
theorem day202 (h : AR (dyU u S) a p w q d e t) (h0 : UOk u) (hi : i < 32) (n1 : S (96 + i) = false) : ∃ d' e', (∀ k, f_L_day_l202 k (nI g, nI i, a, p, w, q, d, e, t) = k (nI (g + gnN u (96 + i)), nI (i + 1), a, p, w, q, d', e', t)) ∧ AR (dyU u (insS S (96 + i))) a p w q d' e' t := by
  obtain ⟨e1, e2⟩ := h.2.1 i hi
  have t1 := h.2.2 (2 + i / 16) (by omega)
  have t2 := h.2.2 (3 + i / 16) (by omega)
  rw [dyU_low (by omega)] at t1 t2
  have pD : 204 + 2 * i = 12 + 2 * (96 + i) := by omega
  have pE : 205 + 2 * i = 13 + 2 * (96 + i) := by omega
  rw [pD, dyU_cn (by omega) n1] at e1
  rw [pE, dyU_sn (by omega) n1] at e2
  have L1 := ljN_d (u := u) (show i / 16 < 2 by omega) (show i % 16 < 16 by omega)
  rw [show 16 * (i / 16) + i % 16 = i by omega] at L1
  have hL := ljN_le h0 (show 96 + i < 128 by omega)
  have sD := sgn0 h0 (show 96 + i < 128 by omega)
  have hT := h0.T (show i / 16 < 3 by omega)
  have hT2 := h0.T (show i / 16 + 1 < 3 by omega)
  rw [show 2 + (i / 16 + 1) = 3 + i / 16 by omega] at hT2
  refine ⟨upd d i (nI (if u (13 + 2 * (96 + i)) - ljN u (96 + i) = 0 then 0 else u (12 + 2 * (96 + i)))), upd e i (nI (u (13 + 2 * (96 + i)) - ljN u (96 + i))), fun k => ?_, ?_⟩
  · have j260 : ∀ P, P ≤ 1000 → f_L_day_j260 k (nI g, nI i, a, p, w, q, d, e, t) (nI P) = k (nI (g + (if u (12 + 2 * (96 + i)) = 0 then 0 else if P = 0 then 1 else 0)), nI (i + 1), a, p, w, q, upd d i (nI (if P = 0 then 0 else u (12 + 2 * (96 + i)))), upd e i (nI P), t) := by
      intro P hP
      unfold f_L_day_j260 f_L_day_j283 f_L_day_j284
      simp only [nI_clamp (show i < 2 ^ 31 by omega), g_in2 (show i < 32 by omega) (by omega), ↓reduceIte, e1, le0 (show u (12 + 2 * (96 + i)) < 2 ^ 31 by omega), upd_eq, eq0 (show P < 2 ^ 31 by omega), nI_1]
      by_cases h1 : u (12 + 2 * (96 + i)) = 0 <;> by_cases h2 : P = 0 <;> simp only [h1, h2, ↓reduceIte, Int32.add_zero, Nat.add_zero] <;> first | rfl | (rw [li1, nI_add]; rfl) | (rw [li1, nI_add])
    unfold f_L_day_l202
    simp only [li32, leN (show 32 < 2 ^ 31 by omega) (show i < 2 ^ 31 by omega), show ¬ 32 ≤ i by omega, nI_pos (show i < 2 ^ 31 by omega), ↓reduceIte, li16, pk_div (show i < 2 ^ 31 by omega) (show 0 < 16 by omega) (show 16 < 2 ^ 31 by omega), li2, li3, nI_add, nI_clamp (show 2 + i / 16 < 2 ^ 31 by omega), g_in2 (show 2 + i / 16 < 10 by omega) (by omega), nI_clamp (show 3 + i / 16 < 2 ^ 31 by omega), g_in2 (show 3 + i / 16 < 10 by omega) (by omega), nI_clamp (show i < 2 ^ 31 by omega), g_in2 (show i < 32 by omega) (by omega), e2, t1, t2, pk_div (show u (2 + i / 16) + u (3 + i / 16) < 2 ^ 31 by omega) (show 0 < 2 by omega) (show 2 < 2 ^ 31 by omega)]
    rw [← L1]
    refine (subS (fun z => f_L_day_j260 k (nI g, nI i, a, p, w, q, d, e, t) z) (l := ljN u (96 + i)) (P := u (13 + 2 * (96 + i))) (by omega) (by omega)).trans ?_
    rw [j260 _ (by omega)]
    rfl
  · refine h.line (i := i) (fun k hk hk2 => dyU_n (by omega)) hi (fun j hj => ⟨upd_ne hj, upd_ne hj⟩) ?_ ?_
    · rw [upd_eq, pD, dyU_c (by omega), insS_j, if_pos rfl]
    · rw [upd_eq, pE, dyU_s (by omega), insS_j, if_pos rfl]
def lS (n : Nat) : Nat → Bool := fun j => decide (j < n)
theorem lS_2 {i j : Nat} : lS (2 * (i + 1)) j = insS (insS (lS (2 * i)) (2 * i)) (2 * i + 1) j := by
  unfold lS insS
  rw [Bool.eq_iff_iff]
  simp only [Bool.or_eq_true, decide_eq_true_eq]
  omega
theorem lS_1 {n j : Nat} : lS (n + 1) j = insS (lS n) n j := by
  unfold lS insS
  rw [Bool.eq_iff_iff]
  simp only [Bool.or_eq_true, decide_eq_true_eq]
  omega
/-- a day in the law -/
theorem dayL_u (h : AR u a p w q d e t) (h0 : UOk u) : ∃ a' p' w' q' d' e' t', f_L_day a p w q d e t = some (nI (gnS u tt), a', p', w', q', d', e', t') ∧ AR (dyU u tt) a' p' w' q' d' e' t' ∧ t' 6 = t 6 + 1 ∧ t' 7 = t 7 ∧ t' 8 = t 8 ∧ t' 9 = t 9 + nI (gnS u tt) := by
  have k0 : ∀ j, j < 128 → lS (2 * 0) j = false := fun j _ => decide_eq_false (by omega)
  have kx : ∀ j, j < 128 → lS (96 + 32) j = tt j := fun j hj => decide_eq_true (by omega)
  unfold f_L_day
  refine lpN_rule f_L_day_l6 (fun _ res => ∃ a' p' w' q' d' e' t', res = some (nI (gnS u tt), a', p', w', q', d', e', t') ∧ AR (dyU u tt) a' p' w' q' d' e' t' ∧ t' 6 = t 6 + 1 ∧ t' 7 = t 7 ∧ t' 8 = t 8 ∧ t' 9 = t 9 + nI (gnS u tt)) (fun v => ∃ i, i ≤ 48 ∧ v.1 = nI (gnS u (lS (2 * i))) ∧ v.2.1 = nI i ∧ AR (dyU u (lS (2 * i))) v.2.2.1 v.2.2.2.1 v.2.2.2.2.1 v.2.2.2.2.2.1 v.2.2.2.2.2.2.1 v.2.2.2.2.2.2.2.1 v.2.2.2.2.2.2.2.2 ∧ v.2.2.2.2.2.2.2.2 = t) (fun v => 48 - v.2.1.toNatClampNeg) ?_ 3000 (0, 0, a, p, w, q, d, e, t) ⟨0, by omega, by rw [gnS_no k0]; rfl, rfl, by rw [dyU_no k0]; exact h, rfl⟩ (by show 48 - (0 : Int32).toNatClampNeg < 3000; omega)
  rintro k ⟨v1, v2, a, p, w, q, d, e, t1⟩ ⟨i, hi, e1, e2, hA, e3⟩ hk
  simp only at e1 e2 hA e3
  subst e1 e2 e3
  by_cases h48 : i = 48
  · subst h48
    unfold f_L_day_l6
    rw [if_pos (show (48 : Int32) ≤ nI 48 by decide)]
    clear hk
    refine lpN_rule f_L_day_l202 (fun _ res => ∃ a' p' w' q' d' e' t', res = some (nI (gnS u tt), a', p', w', q', d', e', t') ∧ AR (dyU u tt) a' p' w' q' d' e' t' ∧ t' 6 = t1 6 + 1 ∧ t' 7 = t1 7 ∧ t' 8 = t1 8 ∧ t' 9 = t1 9 + nI (gnS u tt)) (fun v => ∃ i, i ≤ 32 ∧ v.1 = nI (gnS u (lS (96 + i))) ∧ v.2.1 = nI i ∧ AR (dyU u (lS (96 + i))) v.2.2.1 v.2.2.2.1 v.2.2.2.2.1 v.2.2.2.2.2.1 v.2.2.2.2.2.2.1 v.2.2.2.2.2.2.2.1 v.2.2.2.2.2.2.2.2 ∧ v.2.2.2.2.2.2.2.2 = t1) (fun v => 32 - v.2.1.toNatClampNeg) ?_ 3000 (nI (gnS u (lS (2 * 48))), 0, a, p, w, q, d, e, t1) ⟨0, by omega, rfl, rfl, hA, rfl⟩ (by show 32 - (0 : Int32).toNatClampNeg < 3000; omega)
    clear hA
    rintro k ⟨v1, v2, a, p, w, q, d, e, t⟩ ⟨i, hi, e1, e2, hA, e3⟩ hk
    simp only at e1 e2 hA e3
    subst e1 e2 e3
    by_cases h32 : i = 32
    · subst h32
      unfold f_L_day_l202
      rw [if_pos (show (32 : Int32) ≤ nI 32 by decide)]
      simp only [tc0, tg0, tc1, tg1, tc2, tg2, tc3, tg3, tc4, tg4, tc5, tg5, tc6, tg6, tc7, tg7, tc8, tg8, tc9, tg9, ↓reduceIte]
      rw [gnS_ext kx]
      rw [dyU_ext kx] at hA
      refine ⟨a, p, w, q, d, e, _, rfl, ⟨hA.1, hA.2.1, fun i hi => ?_⟩, ?_, ?_, ?_, ?_⟩
      · rw [upd_ne (by omega), upd_ne (by omega)]; exact hA.2.2 i hi
      · rw [upd_ne (by omega), upd_eq]
      · rw [upd_ne (by omega), upd_ne (by omega)]
      · rw [upd_ne (by omega), upd_ne (by omega)]
      · rw [upd_eq, upd_ne (by omega)]
    · have n1 : lS (96 + i) (96 + i) = false := decide_eq_false (by omega)
      obtain ⟨d', e', g1, g2⟩ := day202 (g := gnS u (lS (96 + i))) hA h0 (show i < 32 by omega) n1
      rw [g1]
      rw [← dyU_ext (fun j _ => lS_1 (n := 96 + i) (j := j))] at g2
      refine hk _ ⟨i + 1, by omega, ?_, rfl, g2, rfl⟩ ?_
      · show nI _ = nI _
        rw [← gnS_ins (by omega) n1, ← gnS_ext (fun j _ => lS_1 (n := 96 + i) (j := j))]
        rfl
      · show 32 - (nI (i + 1)).toNatClampNeg < 32 - (nI i).toNatClampNeg
        rw [nI_clamp (by omega), nI_clamp (by omega)]; omega
  · have n1 : lS (2 * i) (2 * i) = false := decide_eq_false (by omega)
    have n2 : lS (2 * i) (2 * i + 1) = false := decide_eq_false (by omega)
    have n3 : insS (lS (2 * i)) (2 * i) (2 * i + 1) = false := by rw [insS_n (by omega)]; exact n2
    obtain ⟨a', p', w', q', g1, g2⟩ := day6 (g := gnS u (lS (2 * i))) hA h0 (show i < 48 by omega) n1 n2
    rw [g1]
    rw [← dyU_ext (fun j _ => lS_2 (i := i) (j := j))] at g2
    refine hk _ ⟨i + 1, by omega, ?_, rfl, g2, rfl⟩ ?_
    · show nI _ = nI _
      rw [gnS_ext (fun j _ => lS_2 (i := i) (j := j)), gnS_ins (by omega) n3, gnS_ins (by omega) n1, Nat.add_assoc]
    · show 48 - (nI (i + 1)).toNatClampNeg < 48 - (nI i).toNatClampNeg
      rw [nI_clamp (by omega), nI_clamp (by omega)]; omega
/-- some days: the numbers, the signs that are gone -/
def dyI (u : Nat → Nat) : Nat → Nat → Nat
  | 0 => u
  | n + 1 => dyU (dyI u n) tt
def gnI (u : Nat → Nat) : Nat → Nat
  | 0 => 0
  | n + 1 => gnI u n + gnS (dyI u n) tt
theorem dyI_ok (h0 : UOk u) : ∀ n, UOk (dyI u n)
  | 0 => h0
  | n + 1 => dyU_ok (dyI_ok h0 n)
theorem dyI_low {k : Nat} (hk : k < 12) : ∀ n, dyI u n k = u k
  | 0 => rfl
  | n + 1 => (dyU_low hk).trans (dyI_low hk n)
theorem daysC_u {r : TX3s} (hr : RdU u r) (h0 : UOk u) {n : Nat} (hn : n ≤ 30) : ∃ r', f_X3_passDays r (nI n) = some (nI (gnI u n), r') ∧ RdU (dyI u n) r' ∧ r'.2.2.2.2.2.2.1 = r.2.2.2.2.2.2.1 + nI n ∧ r'.2.2.2.2.2.2.2.1 = r.2.2.2.2.2.2.2.1 ∧ r'.2.2.2.2.2.2.2.2.1 = r.2.2.2.2.2.2.2.2.1 ∧ r'.2.2.2.2.2.2.2.2.2 = r.2.2.2.2.2.2.2.2.2 + nI (gnI u n) := by
  unfold f_X3_passDays
  refine lpN_rule (f_X3_passDays_l4 (nI n)) (fun _ res => ∃ r', res = some (nI (gnI u n), r') ∧ RdU (dyI u n) r' ∧ r'.2.2.2.2.2.2.1 = r.2.2.2.2.2.2.1 + nI n ∧ r'.2.2.2.2.2.2.2.1 = r.2.2.2.2.2.2.2.1 ∧ r'.2.2.2.2.2.2.2.2.1 = r.2.2.2.2.2.2.2.2.1 ∧ r'.2.2.2.2.2.2.2.2.2 = r.2.2.2.2.2.2.2.2.2 + nI (gnI u n)) (fun v => ∃ i, i ≤ n ∧ v.1 = nI (gnI u i) ∧ v.2.1 = nI i ∧ RdU (dyI u i) v.2.2 ∧ v.2.2.2.2.2 = r.2.2.2) (fun v => n - v.2.1.toNatClampNeg) ?_ 3000 (0, 0, r) ⟨0, by omega, rfl, rfl, hr, rfl⟩ (by show n - (0 : Int32).toNatClampNeg < 3000; omega)
  rintro k ⟨v1, v2, r1⟩ ⟨i, hi, e1, e2, hR, e3⟩ hk
  simp only at e1 e2 hR e3
  subst e1 e2
  unfold f_X3_passDays_l4
  simp only [leN (show n < 2 ^ 31 by omega) (show i < 2 ^ 31 by omega)]
  by_cases hin : n ≤ i
  · rw [if_pos hin]
    have hin' : i = n := by omega
    subst hin'
    have f5 : r1.2.2.2.2.2.2 = r.2.2.2.2.2.2 := congrArg (fun z => z.2.2.2) e3
    refine ⟨_, rfl, hR, ?_, ?_, ?_, ?_⟩
    · show r1.2.2.2.2.2.2.1 + nI i = _
      rw [f5]
    · show r1.2.2.2.2.2.2.2.1 = _
      rw [f5]
    · show r1.2.2.2.2.2.2.2.2.1 = _
      rw [f5]
    · show r1.2.2.2.2.2.2.2.2.2 + _ = _
      rw [f5]
  · rw [if_neg hin]
    obtain ⟨r', g1, g2, g3, g4⟩ := dayC_u hR (dyI_ok h0 i)
    simp only [g1, Option.bind_some, nI_add, nI_1]
    refine hk _ ⟨i + 1, by omega, rfl, rfl, g2, g4.trans e3⟩ ?_
    show n - (nI (i + 1)).toNatClampNeg < n - (nI i).toNatClampNeg
    rw [nI_clamp (by omega), nI_clamp (by omega)]; omega
end DL
