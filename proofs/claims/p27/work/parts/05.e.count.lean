/-! counts, totals, parts, how long a word can be read -/
theorem sumN_nest {f : Nat → Nat} {m n : Nat} : sumN (fun a => sumN (fun b => f (m * a + b)) m) n = sumN f (m * n) := by
  induction n with
  | zero => rfl
  | succ n ih => rw [sumN, ih, Nat.mul_succ, sumN_add]
section LC
variable {u : Nat → Nat} {r : TX3s} {y : TX6s}
theorem countFrom_u {n rw bs st off : Nat} {s : TX4s} (hs : SgU u n rw bs st off s) (hn : n ≤ 48) {t : Nat} (ht : t < 2 ^ 31) (hu : ∀ i, i < n → u (bs + st * i + 1) ≤ 100) : f_X4_countFrom s (nI t) = some (nI (sumN (fun i => if u (bs + st * i + 1) < t then 0 else 1) n)) := by
  obtain ⟨h1, h2, h3⟩ := hs
  unfold f_X4_countFrom
  obtain ⟨m, h4⟩ := lp_sum (f_X4_countFrom_l4 s (nI t)) (fun i => if u (bs + st * i + 1) < t then 0 else 1) (fun j => nI j) n (by omega) (by
    intro k a j hj
    have h6 := hu j hj
    unfold f_X4_countFrom_l4 f_X4_countFrom_j29
    simp only [h1, leN (show n < 2 ^ 31 by omega) (show j < 2 ^ 31 by omega), show ¬ n ≤ j by omega, ↓reduceIte, nI_clamp (show j < 2 ^ 31 by omega), ltz (show j < 2 ^ 31 by omega), or_false, (h3 j hj).1, ltN (show u (bs + st * j + 1) < 2 ^ 31 by omega) ht, asNumber_0, asNumber_1, Option.bind_some, nI_1]
    by_cases h5 : u (bs + st * j + 1) < t
    · rw [if_pos h5, if_pos h5, li0, nI_add]
    · rw [if_neg h5, if_neg h5])
  rw [show ((0 : Int32), (0 : Int32)) = (0, (fun j => nI j) 0) from rfl, h4]
  unfold f_X4_countFrom_l4
  rw [if_pos (by rw [h1]; exact Int32.le_refl _)]
theorem count_u {n rw bs st off mx : Nat} {s : TX4s} (hs : SgU u n rw bs st off s) (hu : UG u n bs st mx) (hn : n ≤ 48) : f_X4_count s = some (nI (sumN (fun i => if u (bs + st * i) = 0 then 0 else 1) n)) := by
  unfold f_X4_count
  rw [li1, countFrom_u hs hn (by omega) (fun i hi => (hu i hi).1)]
  rw [Option.bind_some, sumN_congr (fun i hi => ?_)]
  have h := (hu i hi).2.1
  by_cases h0 : u (bs + st * i) = 0
  · rw [if_pos h0, if_pos (by have := h.mp h0; omega)]
  · rw [if_neg h0, if_neg (fun z => h0 (h.mpr (by omega)))]
theorem cellSigns_u (hz : ZU u y.1) {o : Nat} (ho : o = 0 ∨ o = 2) (hu : ∀ i, i < 48 → u (12 + o + 4 * i) ≤ 100) : f_X6_cellSigns y (nI o) = some (nI (sumN (fun i => if u (12 + o + 4 * i) = 0 then 0 else 1) 48)) := by
  unfold f_X6_cellSigns
  obtain ⟨m, h4⟩ := lp_sum (f_X6_cellSigns_l7 y) (fun i => if u (12 + o + 4 * i) = 0 then 0 else 1) (fun j => nI (12 + o + 4 * j)) 48 (by omega) (by
    intro k a j hj
    have h6 := hu j hj
    unfold f_X6_cellSigns_l7
    simp only [li204, leN (show 204 < 2 ^ 31 by omega) (show 12 + o + 4 * j < 2 ^ 31 by omega), show ¬ 204 ≤ 12 + o + 4 * j by omega, ↓reduceIte, nI_clamp (show 12 + o + 4 * j < 2 ^ 31 by omega), g_in2 (show 12 + o + 4 * j < 268 by omega) (by omega), hz.at (show 12 + o + 4 * j < 268 by omega) (Or.inr (by omega)), le0 (show u (12 + o + 4 * j) < 2 ^ 31 by omega)]
    have e : nI (12 + o + 4 * j) + 4 = nI (12 + o + 4 * (j + 1)) := by rw [li4, nI_add, show 12 + o + 4 * j + 4 = 12 + o + 4 * (j + 1) by omega]
    rw [e]
    by_cases h5 : u (12 + o + 4 * j) = 0
    · rw [if_pos h5, if_pos h5, li0, nI_add]
    · rw [if_neg h5, if_neg h5, nI_1])
  rw [show (12 : Int32) + nI o = (fun j => nI (12 + o + 4 * j)) 0 from (by rw [li12, nI_add]; rfl), h4]
  unfold f_X6_cellSigns_l7
  rw [if_pos (by rw [li204, leN (by omega) (by omega)]; omega)]
theorem dashes_u (hz : ZU u y.1) (hu : UG u 32 204 2 3) : f_X6_dashes y = some (nI (sumN (fun i => if u (204 + 2 * i) = 0 then 0 else 1) 32)) := by
  unfold f_X6_dashes
  obtain ⟨m, h4⟩ := lp_sum (f_X6_dashes_l6 y) (fun i => if u (204 + 2 * i) = 0 then 0 else 1) (fun j => nI (204 + 2 * j)) 32 (by omega) (by
    intro k a j hj
    have h6 := hu j hj
    unfold f_X6_dashes_l6
    simp only [li268, leN (show 268 < 2 ^ 31 by omega) (show 204 + 2 * j < 2 ^ 31 by omega), show ¬ 268 ≤ 204 + 2 * j by omega, ↓reduceIte, nI_clamp (show 204 + 2 * j < 2 ^ 31 by omega), ltz (show 204 + 2 * j < 2 ^ 31 by omega), or_false, hz.at (show 204 + 2 * j < 268 by omega) (Or.inr (by omega)), le0 (show u (204 + 2 * j) < 2 ^ 31 by omega)]
    have e : nI (204 + 2 * j) + 2 = nI (204 + 2 * (j + 1)) := by rw [li2, nI_add, show 204 + 2 * j + 2 = 204 + 2 * (j + 1) by omega]
    rw [e]
    by_cases h5 : u (204 + 2 * j) = 0
    · rw [if_pos h5, if_pos h5, li0, nI_add]
    · rw [if_neg h5, if_neg h5, nI_1])
  rw [show (204 : Int32) = (fun j => nI (204 + 2 * j)) 0 from rfl, h4]
  unfold f_X6_dashes_l6
  rw [if_pos (show (268 : Int32) ≤ nI (204 + 2 * 32) by decide)]
theorem sums_u {n rw bs st off : Nat} {s : TX4s} (hs : SgU u n rw bs st off s) (hn : n ≤ 48) : f_X4_sumOfStrengths s = some (nI (sumN (fun i => u (bs + st * i + 1)) n)) := by
  obtain ⟨h1, h2, h3⟩ := hs
  unfold f_X4_sumOfStrengths
  obtain ⟨m, h4⟩ := lp_sum (f_X4_sumOfStrengths_l4 s) (fun i => u (bs + st * i + 1)) (fun j => nI j) n (by omega) (by
    intro k a j hj
    unfold f_X4_sumOfStrengths_l4
    simp only [h1, leN (show n < 2 ^ 31 by omega) (show j < 2 ^ 31 by omega), show ¬ n ≤ j by omega, ↓reduceIte, nI_clamp (show j < 2 ^ 31 by omega), ltz (show j < 2 ^ 31 by omega), or_false, (h3 j hj).1, nI_1, nI_add])
  rw [show ((0 : Int32), (0 : Int32)) = (0, (fun j => nI j) 0) from rfl, h4]
  unfold f_X4_sumOfStrengths_l4
  rw [if_pos (by rw [h1]; exact Int32.le_refl _)]
theorem strengths_u (hz : ZU u y.1) : f_X6_strengths y = some (nI (sumN (fun i => u (13 + 2 * i)) 128)) := by
  unfold f_X6_strengths
  obtain ⟨m, h4⟩ := lp_sum (f_X6_strengths_l5 y) (fun i => u (13 + 2 * i)) (fun j => nI (13 + 2 * j)) 128 (by omega) (by
    intro k a j hj
    unfold f_X6_strengths_l5
    simp only [li268, leN (show 268 < 2 ^ 31 by omega) (show 13 + 2 * j < 2 ^ 31 by omega), show ¬ 268 ≤ 13 + 2 * j by omega, ↓reduceIte, nI_clamp (show 13 + 2 * j < 2 ^ 31 by omega), ltz (show 13 + 2 * j < 2 ^ 31 by omega), or_false, hz.at (show 13 + 2 * j < 268 by omega) (Or.inr (by omega)), nI_add, li2, show 13 + 2 * j + 2 = 13 + 2 * (j + 1) by omega])
  rw [show (13 : Int32) = (fun j => nI (13 + 2 * j)) 0 from rfl, h4]
  unfold f_X6_strengths_l5
  rw [if_pos (show (268 : Int32) ≤ nI (13 + 2 * 128) by decide)]
theorem sums3_u (hr : RdU u r) (hz : ZU u y.1) : ∃ v, f_X3_sumOfStrengths r = some v ∧ f_X6_strengths y = some v := by
  refine ⟨_, ?_, strengths_u hz⟩
  unfold f_X3_sumOfStrengths
  simp only [sums_u hr.1 (by omega), sums_u hr.2.1 (by omega), sums_u hr.2.2.1 (by omega), Option.bind_some, nI_add]
  rw [show 128 = 2 * 48 + 32 by omega, sumN_add, sumN_two]
  have e1 : sumN (fun i => u (12 + 4 * i + 1)) 48 = sumN (fun i => u (13 + 2 * (2 * i))) 48 := sumN_congr (fun i _ => by rw [show 12 + 4 * i + 1 = 13 + 2 * (2 * i) by omega])
  have e2 : sumN (fun i => u (14 + 4 * i + 1)) 48 = sumN (fun i => u (13 + 2 * (2 * i + 1))) 48 := sumN_congr (fun i _ => by rw [show 14 + 4 * i + 1 = 13 + 2 * (2 * i + 1) by omega])
  have e3 : sumN (fun i => u (204 + 2 * i + 1)) 32 = sumN (fun i => u (13 + 2 * (2 * 48 + i))) 32 := sumN_congr (fun i _ => by rw [show 204 + 2 * i + 1 = 13 + 2 * (2 * 48 + i) by omega])
  rw [e1, e2, e3]
theorem readable_u (hr : RdU u r) (hz : ZU u y.1) (hu : UOk u) : ∃ v, f_X4_countFrom r.2.1 (nI (u 0)) = some v ∧ f_X6_readable y = some v := by
  refine ⟨nI (sumN (rdN u) 48), ?_, ?_⟩
  · rw [countFrom_u hr.2.1 (by omega) (by have := hu.2.2.2.1; omega) (fun i hi => (hu.2.1 i hi).1)]
    rw [sumN_congr (fun i _ => ?_)]
    unfold rdN
    rw [show 14 + 4 * i + 1 = 15 + 4 * i by omega]
  · unfold f_X6_readable
    obtain ⟨m, h4⟩ := lp_sum (f_X6_readable_l4 y) (fun a => sumN (fun b => rdN u (16 * a + b)) 16) (fun j => nI j) 3 (by omega) (by
      intro k a j hj
      unfold f_X6_readable_l4
      simp only [li3, leN (show 3 < 2 ^ 31 by omega) (show j < 2 ^ 31 by omega), show ¬ 3 ≤ j by omega, ↓reduceIte]
      obtain ⟨m, h5⟩ := lp_sumA (f_X6_readable_l11 y k (nI a, nI j)) (fun b => rdN u (16 * j + b)) (fun j => nI j) 16 a (by omega) (by
        intro k2 c b hb
        unfold f_X6_readable_l11
        simp only [li16, leN (show 16 < 2 ^ 31 by omega) (show b < 2 ^ 31 by omega), show ¬ 16 ≤ b by omega, ↓reduceIte, isRead_u hz hu hj hb, Option.bind_some, nI_1]
        unfold rdN
        split
        · rw [if_pos (by decide), li0, nI_add]
        · rw [if_neg (by decide)])
      rw [show (0 : Int32) = (fun j => nI j) 0 from rfl, h5]
      unfold f_X6_readable_l11
      rw [if_pos (show (16 : Int32) ≤ nI 16 by decide)]
      exact congrArg (fun z => k (nI (a + sumN (fun b => rdN u (16 * j + b)) 16), z)) (nI_1 j))
    rw [show ((0 : Int32), (0 : Int32)) = (0, (fun j => nI j) 0) from rfl, h4, sumN_nest]
    unfold f_X6_readable_l4
    rw [if_pos (show (3 : Int32) ≤ nI 3 by decide)]
/-- how many days a word can be read -/
theorem readableDays_u (hr : RdU u r) (hz : ZU u y.1) (hu : UOk u) {a b : Nat} (ha : a < 3) (hb : b < 16) : ∃ v, f_X3_readableDays r (nI a) (nI b) = some v ∧ f_X6_readableFor y (nI a) (nI b) = some v := by
  obtain ⟨h5, h6, h7⟩ := hu.2.1 (16 * a + b) (by omega)
  have h40 := hu.2.2.2.1
  have ht := hu.2.2.2.2.2.1 a ha
  rw [show 14 + 4 * (16 * a + b) + 1 = 15 + 4 * (16 * a + b) by omega] at h5 h6
  have hl : lsN u a b ≤ 20 := by unfold lsN; split <;> omega
  have hcell : f_X6_isCell (nI a) (nI b) = some 1 := by
    unfold f_X6_isCell
    rw [in_yes li0 li2 (by omega) (by omega) (by omega), in_yes li0 li15 (by omega) (by omega) (by omega)]
    rfl
  unfold f_X3_readableDays f_X6_readableFor
  simp only [isAt_u hr.2.1 hu.2.1 (by omega) (show 16 * a + b < 48 by omega), canRead_u hr hu ha hb, lossAt_u hr hu ha hb, strengthAt_u hr.2.1 (by omega) (show 16 * a + b < 48 by omega), hcell, cellAt_n, Option.bind_some, show ¬ (1 : Int32) = 0 by decide, ↓reduceIte, li2, li3, nI_add, show 12 + 4 * (16 * a + b) + 2 = 14 + 4 * (16 * a + b) by omega, show 12 + 4 * (16 * a + b) + 3 = 15 + 4 * (16 * a + b) by omega, show 14 + 4 * (16 * a + b) + 1 = 15 + 4 * (16 * a + b) by omega, nI_clamp (show 14 + 4 * (16 * a + b) < 2 ^ 31 by omega), nI_clamp (show 15 + 4 * (16 * a + b) < 2 ^ 31 by omega), g_in2 (show 14 + 4 * (16 * a + b) < 268 by omega) (by omega), g_in2 (show 15 + 4 * (16 * a + b) < 268 by omega) (by omega), hz.at (show 14 + 4 * (16 * a + b) < 268 by omega) (Or.inr (by omega)), hz.at (show 15 + 4 * (16 * a + b) < 268 by omega) (Or.inr (by omega)), eq0 (show u (14 + 4 * (16 * a + b)) < 2 ^ 31 by omega), eq0 (show rdN u (16 * a + b) < 2 ^ 31 by unfold rdN; split <;> omega), eq0 (show lsN u a b < 2 ^ 31 by omega), g_0 (show 0 < 2 by omega), cl0, hr.2.2.2.2.1 0 (by omega)]
  by_cases h0 : u (14 + 4 * (16 * a + b)) = 0
  · simp only [if_pos h0, ↓reduceIte]
    exact ⟨_, rfl, rfl⟩
  · simp only [if_neg h0, show ¬ (1 : Int32) = 0 by decide, ↓reduceIte]
    have hz0 : y.1 0 = nI (u 0) := hz.at (by omega) (Or.inl (by omega))
    have stop : ∀ k (x : Int32) (j : Nat), j ≤ 300 → x < nI (u 0) → f_X6_readableFor_l43 y (nI a) (nI b) k (x, nI j) = some (nI j) := by
      intro k x j hj hx
      unfold f_X6_readableFor_l43 f_X6_readableFor_j79
      simp only [li300, ltN (show 300 < 2 ^ 31 by omega) (show j < 2 ^ 31 by omega), leN (show j < 2 ^ 31 by omega) (show 300 < 2 ^ 31 by omega), show ¬ 300 < j by omega, hj, ↓reduceIte, g_0 (show 0 < 268 by omega), cl0, hz0, hx]
    have go : ∀ k (s : Nat) (j : Nat), j ≤ 300 → s ≤ 100 → ¬ s < u 0 → f_X6_readableFor_l43 y (nI a) (nI b) k (nI s, nI j) = k (nI s - nI (lsN u a b), nI (j + 1)) := by
      intro k s j hj hs hx
      unfold f_X6_readableFor_l43 f_X6_readableFor_j79
      simp only [li300, ltN (show 300 < 2 ^ 31 by omega) (show j < 2 ^ 31 by omega), show ¬ 300 < j by omega, ↓reduceIte, g_0 (show 0 < 268 by omega), cl0, hz0, ltN (show s < 2 ^ 31 by omega) (show u 0 < 2 ^ 31 by omega), hx, lossOf_u hz hu ha hb, Option.bind_some, nI_1]
    by_cases h1 : u (15 + 4 * (16 * a + b)) < u 0
    · simp only [show rdN u (16 * a + b) = 0 by unfold rdN; rw [if_pos h1], ↓reduceIte]
      refine ⟨0, rfl, ?_⟩
      rw [lp3000]
      exact stop _ _ 0 (by omega) (by rw [ltN (by omega) (by omega)]; exact h1)
    · simp only [show rdN u (16 * a + b) = 1 by unfold rdN; rw [if_neg h1], show ¬ 1 = 0 by omega, ↓reduceIte]
      by_cases h2 : lsN u a b = 0
      · simp only [h2, ↓reduceIte]
        refine ⟨-6, rfl, ?_⟩
        obtain ⟨a', m, h8, h9⟩ := lp_for1 (f_X6_readableFor_l43 y (nI a) (nI b)) (fun j v => v = (nI (u (15 + 4 * (16 * a + b))), nI j)) 301 (fun j hj v hv => ⟨_, rfl, fun k => by rw [hv, go k _ j (by omega) h5 h1, h2, pk_sub (by omega)]; rfl⟩) (a := (nI (u (15 + 4 * (16 * a + b))), 0)) rfl (by omega)
        rw [h9, h8]
        unfold f_X6_readableFor_l43 f_X6_readableFor_j79
        rw [if_pos (show (300 : Int32) < nI 301 by decide), if_neg (show ¬ nI 301 ≤ (300 : Int32) by decide)]
      · simp only [h2, ↓reduceIte]
        have hd : (u (15 + 4 * (16 * a + b)) - u 0) / lsN u a b ≤ 100 := Nat.le_trans (Nat.div_le_self _ _) (by omega)
        have hm : lsN u a b * ((u (15 + 4 * (16 * a + b)) - u 0) / lsN u a b) ≤ u (15 + 4 * (16 * a + b)) - u 0 := Nat.mul_div_le _ _
        have hm2 : u (15 + 4 * (16 * a + b)) - u 0 < lsN u a b * ((u (15 + 4 * (16 * a + b)) - u 0) / lsN u a b + 1) := by
          have := Nat.lt_mul_div_succ (u (15 + 4 * (16 * a + b)) - u 0) (show 0 < lsN u a b by omega)
          exact this
        refine ⟨nI ((u (15 + 4 * (16 * a + b)) - u 0) / lsN u a b + 1), ?_, ?_⟩
        · rw [pk_sub (by omega), pk_div (by omega) (by omega) (by omega), nI_1]
        · generalize (u (15 + 4 * (16 * a + b)) - u 0) / lsN u a b = D at hd hm hm2
          obtain ⟨a', m, h8, h9⟩ := lp_for1 (f_X6_readableFor_l43 y (nI a) (nI b)) (fun j v => v = (nI (u (15 + 4 * (16 * a + b)) - lsN u a b * j), nI j)) D (fun j hj v hv => ⟨_, rfl, fun k => by
            have h10 : lsN u a b * (j + 1) ≤ lsN u a b * D := Nat.mul_le_mul_left _ (by omega)
            rw [Nat.mul_succ] at h10
            rw [hv, go k _ j (by omega) (by omega) (by omega), pk_sub (by omega), Nat.mul_succ, Nat.sub_sub]⟩) (a := (nI (u (15 + 4 * (16 * a + b))), 0)) (by rw [Nat.mul_zero, Nat.sub_zero]; rfl) (by omega)
          rw [h9, h8, go _ _ D (by omega) (by omega) (by omega)]
          rw [lpN_succ]
          refine stop _ _ (D + 1) (by omega) ?_
          rw [Nat.mul_succ] at hm2
          by_cases h10 : lsN u a b ≤ u (15 + 4 * (16 * a + b)) - lsN u a b * D
          · rw [pk_sub h10, ltN (by omega) (by omega)]
            omega
          · exact Int32.lt_trans (pk_sneg (by omega) (by omega)) (by rw [li0, nI_ltI (by omega) (by omega)]; omega)
end LC
