/-! a night's work, the reference -/
theorem UOk.setP {u : Nat → Nat} (hu : UOk u) {b k : Nat} (hb : b < 16) (hk : k < 8) (h0 : u (pl b k) ≠ 0) : UOk (set2 u (pl b k) (u (pl b k)) 100) := by
  have g := pl_ok hu hb hk
  unfold pl at g h0 ⊢
  split at g
  · rename_i h
    simp only [h, ↓reduceIte] at h0 ⊢
    exact hu.setW (by omega) (by omega) (hu.2.1 _ (by omega)).2.2 (by omega)
  · rename_i h
    split at g
    · rename_i h'
      simp only [h, h', ↓reduceIte] at h0 ⊢
      exact hu.setA (by omega) (by omega) (hu.1 _ (by omega)).2.2 (by omega)
    · rename_i h'
      simp only [h, h', ↓reduceIte] at h0 ⊢
      exact hu.setD (by omega) (by omega) (hu.2.2.1 _ (by omega)).2.2 (by omega)
theorem nf_ok {lim b : Nat} {s : (Nat → Nat) × Nat} (hu : UOk s.1) (hb : b < 16) : ∀ k, k ≤ 8 → UOk (nf lim b s k).1 := by
  intro k
  induction k with
  | zero => intro _; exact hu
  | succ k ih =>
    intro hk
    rw [nf, nfS]
    split
    · rename_i h
      exact (ih (by omega)).setP hb (by omega) (wkN_1 h.1)
    · exact ih (by omega)
section LW
variable {r r0 : TX3s} {y y0 : TX6s}
theorem mile6 {lim b cans st : Nat} {s0 : (Nat → Nat) × Nat} (hb : b < 16) (hc : cans ≤ 99) (hst : st ≤ 40) (hl : lim ≤ cans) (hl2 : lim ≤ st) (hl3 : lim = cans ∨ lim = st) (hu : UOk s0.1) (hA : s0.2 ≤ lim) (h1 : s0.1 1 = st) (hz : ZN s0.1 cans s0.2 y.1) (p2 w : Int32) (hne : ¬ nI b = p2 + w) (k17 : (Int32 × Int32 × TX6s) → Option (Int32 × TX6s)) : ∃ y', f_X6_works_l17 p2 w k17 (nI s0.2, nI b, y) = k17 (nI (nf lim b s0 8).2, nI b + w, y') ∧ ZN (nf lim b s0 8).1 cans (nf lim b s0 8).2 y'.1 ∧ y'.2 = y.2 ∧ ∀ k, 6 ≤ k → k < 12 → y'.1 k = y.1 k := by
  unfold f_X6_works_l17
  rw [if_neg hne]
  obtain ⟨⟨a1, a2, a3⟩, m, ⟨e1, e2, e3, e4, e5⟩, q⟩ := lp_for1 (f_X6_works_l29 w k17 (nI s0.2, nI b, y)) (fun k a => a.1 = nI (nf lim b s0 k).2 ∧ a.2.1 = nI k ∧ ZN (nf lim b s0 k).1 cans (nf lim b s0 k).2 a.2.2.1 ∧ a.2.2.2 = y.2 ∧ ∀ k, 6 ≤ k → k < 12 → a.2.2.1 k = y.1 k) 8 (by
    rintro k hk ⟨a1, a2, a3⟩ ⟨e1, e2, e3, e4, e5⟩
    simp only at e1 e2 e3 e4 e5
    subst e1 e2
    have g := pl_ok (nf_ok (lim := lim) hu hb k (by omega)) hb hk
    have g2 := pl_le hb hk
    have g3 := @pl_12 b k
    have hle := nf_le (lim := lim) (b := b) hA k
    have hz1 : a3.1 1 = nI st := by rw [e3.1 1 (by omega) (Or.inl (by omega)), nf_low k (by omega), h1]
    have hw := isWeak_u (y := a3) (u := (nf lim b s0 k).1) (z := a3.1) g2 (e3.1 _ (by omega) (Or.inr g3)) (e3.1 _ g2 (Or.inr (by omega))) (by omega) g.1
    have hn : nf lim b s0 (k + 1) = nfS lim (nf lim b s0 k) (pl b k) := rfl
    have same : (¬ (wkN (nf lim b s0 k).1 (pl b k) = 1 ∧ (nf lim b s0 k).2 < lim)) → (∀ k2, f_X6_works_l29 w k17 (nI s0.2, nI b, y) k2 (nI (nf lim b s0 k).2, nI k, a3) = k2 (nI (nf lim b s0 k).2, nI (k + 1), a3)) → ∃ a', (a'.1 = nI (nf lim b s0 (k + 1)).2 ∧ a'.2.1 = nI (k + 1) ∧ ZN (nf lim b s0 (k + 1)).1 cans (nf lim b s0 (k + 1)).2 a'.2.2.1 ∧ a'.2.2.2 = y.2 ∧ ∀ k, 6 ≤ k → k < 12 → a'.2.2.1 k = y.1 k) ∧ ∀ k2, f_X6_works_l29 w k17 (nI s0.2, nI b, y) k2 (nI (nf lim b s0 k).2, nI k, a3) = k2 a' := by
      intro h6 h7
      rw [nfS, if_neg h6] at hn
      rw [hn]
      exact ⟨(nI (nf lim b s0 k).2, nI (k + 1), a3), ⟨rfl, rfl, e3, e4, e5⟩, h7⟩
    have head : ∀ k2, f_X6_works_l29 w k17 (nI s0.2, nI b, y) k2 (nI (nf lim b s0 k).2, nI k, a3) = if nI (wkN (nf lim b s0 k).1 (pl b k)) = 0 then k2 (nI (nf lim b s0 k).2, nI (k + 1), a3) else if cans - (nf lim b s0 k).2 = 0 then k2 (nI (nf lim b s0 k).2, nI (k + 1), a3) else if st ≤ (nf lim b s0 k).2 then k2 (nI (nf lim b s0 k).2, nI (k + 1), a3) else k2 (nI ((nf lim b s0 k).2 + 1), nI (k + 1), (upd (upd a3.1 (pl b k + 1) 100) 5 (upd a3.1 (pl b k + 1) 100 5 - 1)), a3.2) := by
      intro k2
      unfold f_X6_works_l29
      rw [if_neg (by show ¬ (8 : Int32) ≤ nI k; rw [show (8 : Int32) = nI 8 from rfl, nI_leI (by omega) (by omega)]; omega)]
      simp only [signAt_n hk, Option.bind_some, hw, gcl li5 (show 5 < 268 by omega) (by omega), gcl li1 (show 1 < 268 by omega) (by omega), clk li5 (show 5 < 2 ^ 31 by omega), clk li1 (show 1 < 2 ^ 31 by omega), ↓reduceIte, e3.2, hz1, le0 (show cans - (nf lim b s0 k).2 < 2 ^ 31 by omega), leN (show st < 2 ^ 31 by omega) (show (nf lim b s0 k).2 < 2 ^ 31 by omega), nI_1, nI_clamp (show pl b k + 1 < 2 ^ 31 by omega), g_in2 g2 (by omega)]
    rcases @wkN_01 (nf lim b s0 k).1 (pl b k) with h4 | h4
    · refine same (by omega) (fun k2 => ?_)
      rw [head, h4, if_pos (by decide)]
    · by_cases h5 : cans - (nf lim b s0 k).2 = 0
      · refine same (by omega) (fun k2 => ?_)
        rw [head, h4, if_neg (by decide), if_pos h5]
      · by_cases h6 : st ≤ (nf lim b s0 k).2
        · refine same (by omega) (fun k2 => ?_)
          rw [head, h4, if_neg (by decide), if_neg h5, if_pos h6]
        · rw [nfS, if_pos ⟨h4, by omega⟩] at hn
          rw [hn]
          refine ⟨(nI ((nf lim b s0 k).2 + 1), nI (k + 1), (upd (upd a3.1 (pl b k + 1) 100) 5 (upd a3.1 (pl b k + 1) 100 5 - 1)), a3.2), ⟨rfl, rfl, ⟨?_, ?_⟩, e4, ?_⟩, ?_⟩
          · intro i hi hi2
            show upd (upd a3.1 (pl b k + 1) 100) 5 (upd a3.1 (pl b k + 1) 100 5 - 1) i = nI (set2 (nf lim b s0 k).1 (pl b k) ((nf lim b s0 k).1 (pl b k)) 100 i)
            rw [upd_ne (by omega)]
            by_cases i1 : i = pl b k + 1
            · subst i1
              rw [upd_eq, set2_1]; rfl
            · rw [upd_ne i1]
              by_cases i0 : i = pl b k
              · subst i0
                rw [set2_0]
                exact e3.1 _ hi hi2
              · rw [set2_n i0 i1]
                exact e3.1 _ hi hi2
          · show upd (upd a3.1 (pl b k + 1) 100) 5 (upd a3.1 (pl b k + 1) 100 5 - 1) 5 = nI (cans - ((nf lim b s0 k).2 + 1))
            rw [upd_eq, upd_ne (by omega), e3.2, li1, pk_sub (by omega), Nat.sub_sub]
          · intro i hi hi2
            show upd (upd a3.1 (pl b k + 1) 100) 5 (upd a3.1 (pl b k + 1) 100 5 - 1) i = _
            rw [upd_ne (by omega), upd_ne (by omega)]
            exact e5 i hi hi2
          · intro k2
            rw [head, h4, if_neg (by decide), if_neg h5, if_neg h6]) (a := (nI s0.2, 0, y)) ⟨rfl, rfl, hz, rfl, fun _ _ _ => rfl⟩ (by omega)
  simp only at e1 e2 e3 e4 e5
  subst e1 e2
  refine ⟨a3, ?_, e3, e4, e5⟩
  rw [q]
  unfold f_X6_works_l29
  rw [if_pos (show (8 : Int32) ≤ nI 8 by decide)]
/-- the miles of a night -/
theorem night_u (h : RZ r y.1) {a m : Nat} (ha : a < 16) (hm : m ≤ 16) (p2 w : Int32) (habs : (if 0 ≤ (p2 - nI a) then (p2 - nI a) else 0 - (p2 - nI a)) + 1 = nI m) (hM : ∀ i, i < m → ∃ b, b < 16 ∧ nI a + nI i * w = nI b ∧ ¬ nI b = p2 + w) (hE : nI a + nI m * w = p2 + w) : ∃ v r' z', f_X3_workNight_j10 r (nI a) p2 w = some (v, r') ∧ f_X6_works_j12 y (nI a) p2 w = some (v, (z', y.2)) ∧ RZ r' z' := by
  obtain ⟨u, hr, hz, hu, c6, c7, c8, c9⟩ := h
  have h40 := hu.2.2.2.2.1
  have h99 := hu.2.2.2.2.2.2
  have hcl : f_X3_crewLimit r = some (nI (if u 1 < u 5 then u 1 else u 5)) := by
    unfold f_X3_crewLimit
    simp only [gcl li1 (show 1 < 2 by omega) (by omega), clk li1 (show 1 < 2 ^ 31 by omega), ↓reduceIte, hr.2.2.2.2.1 1 (by omega), hr.2.2.2.2.2, ltN (show u 1 < 2 ^ 31 by omega) (show u 5 < 2 ^ 31 by omega)]
    split <;> rfl
  unfold f_X3_workNight_j10 f_X6_works_j12
  rw [hcl, Option.bind_some]
  have hl1 : (if u 1 < u 5 then u 1 else u 5) ≤ u 5 := by split <;> omega
  have hl2 : (if u 1 < u 5 then u 1 else u 5) ≤ u 1 := by split <;> omega
  have hl3 : (if u 1 < u 5 then u 1 else u 5) = u 5 ∨ (if u 1 < u 5 then u 1 else u 5) = u 1 := by split <;> omega
  generalize (if u 1 < u 5 then u 1 else u 5) = lim at hl1 hl2 hl3
  refine lpN_rel (f_X3_workNight_l33 (nI a) p2 w (nI lim)) (f_X6_works_l17 p2 w) (fun v v' => ∃ i u' A, i ≤ m ∧ A ≤ lim ∧ v.1 = nI A ∧ v'.1 = nI A ∧ v.2.1 = nI i ∧ v'.2.1 = nI a + nI i * w ∧ RdU u' v.2.2 ∧ UOk u' ∧ u' 1 = u 1 ∧ u' 5 = u 5 ∧ v.2.2.2.2.2 = r.2.2.2 ∧ ZN u' (u 5) A v'.2.2.1 ∧ v'.2.2.2 = y.2 ∧ ∀ k, 6 ≤ k → k < 12 → v'.2.2.1 k = y.1 k) (fun v _ => 16 - v.2.1.toNatClampNeg) (fun r1 r2 => ∃ v r' z', r1 = some (v, r') ∧ r2 = some (v, (z', y.2)) ∧ RZ r' z') ?_ 3000 (0, 0, r) (0, nI a, y) ⟨0, u, 0, by omega, by omega, rfl, rfl, rfl, ?_, hr, hu, rfl, rfl, rfl, ⟨fun k hk h2 => hz k hk (by omega), ?_⟩, rfl, fun _ _ _ => rfl⟩ (by omega)
  · rintro k1 k2 ⟨a1, a2, a3⟩ ⟨d1, d2, d3⟩ ⟨i, u', A, hi, hA, e1, e1', e2, e2', e3, e4, e5, e5', e6, e7, e8, e9⟩ hk
    simp only at e1 e1' e2 e2' e3 e6 e7 e8 e9
    subst e1 e1' e2 e2'
    by_cases him : i = m
    · subst him
      unfold f_X3_workNight_l33 f_X6_works_l17
      rw [if_pos (by rw [habs]; exact Int32.le_refl _), if_pos hE]
      simp only [gcl (show (7 : Int32) = nI 7 from rfl) (show 7 < 268 by omega) (by omega), gcl (show (8 : Int32) = nI 8 from rfl) (show 8 < 268 by omega) (by omega), clk (show (7 : Int32) = nI 7 from rfl) (show 7 < 2 ^ 31 by omega), clk (show (8 : Int32) = nI 8 from rfl) (show 8 < 2 ^ 31 by omega), ↓reduceIte]
      have f5 : a3.2.2.2.2.2.1 = r.2.2.2.2.2.1 := congrArg (fun z => z.2.2.1) e6
      have f6 : a3.2.2.2.2.2.2.1 = r.2.2.2.2.2.2.1 := congrArg (fun z => z.2.2.2.1) e6
      have f7 : a3.2.2.2.2.2.2.2.1 = r.2.2.2.2.2.2.2.1 := congrArg (fun z => z.2.2.2.2.1) e6
      have f8 : a3.2.2.2.2.2.2.2.2.1 = r.2.2.2.2.2.2.2.2.1 := congrArg (fun z => z.2.2.2.2.2.1) e6
      have f9 : a3.2.2.2.2.2.2.2.2.2 = r.2.2.2.2.2.2.2.2.2 := congrArg (fun z => z.2.2.2.2.2.2) e6
      have hv : ∀ k, k ≠ 5 → (fun k => if k = 5 then u 5 - A else u' k) k = u' k := fun k hk => if_neg hk
      refine ⟨_, _, _, rfl, congrArg (fun z => some (nI A, (_, z))) e8, ⟨fun k => if k = 5 then u 5 - A else u' k, ⟨?_, ?_, ?_, ?_, ?_, ?_⟩, ?_, ⟨?_, ?_, ?_, ?_, ?_, ?_, ?_⟩, ?_, ?_, ?_, ?_⟩⟩
      · refine ⟨e3.1.1, e3.1.2.1, fun j hj => ?_⟩
        rw [hv _ (by omega), hv _ (by omega)]
        exact e3.1.2.2 j hj
      · refine ⟨e3.2.1.1, e3.2.1.2.1, fun j hj => ?_⟩
        rw [hv _ (by omega), hv _ (by omega)]
        exact e3.2.1.2.2 j hj
      · refine ⟨e3.2.2.1.1, e3.2.2.1.2.1, fun j hj => ?_⟩
        rw [hv _ (by omega), hv _ (by omega)]
        exact e3.2.2.1.2.2 j hj
      · intro j hj
        rw [hv _ (by omega)]
        exact e3.2.2.2.1 j hj
      · intro j hj
        rw [hv _ (by omega)]
        exact e3.2.2.2.2.1 j hj
      · show a3.2.2.2.2.2.1 - nI A = nI (if 5 = 5 then u 5 - A else u' 5)
        rw [if_pos rfl, e3.2.2.2.2.2, e5', pk_sub (by omega)]
      · intro k hk1 hk2
        show upd (upd d3.1 7 _) 8 _ k = nI (if k = 5 then u 5 - A else u' k)
        rw [upd_ne (by omega), upd_ne (by omega)]
        by_cases h5 : k = 5
        · rw [if_pos h5, h5]; exact e7.2
        · rw [if_neg h5]; exact e7.1 k hk1 (by omega)
      · intro j hj
        rw [hv _ (by omega), hv _ (by omega)]
        exact e4.1 j hj
      · intro j hj
        rw [hv _ (by omega), hv _ (by omega)]
        exact e4.2.1 j hj
      · intro j hj
        rw [hv _ (by omega), hv _ (by omega)]
        exact e4.2.2.1 j hj
      · rw [hv _ (by omega)]; exact e4.2.2.2.1
      · rw [hv _ (by omega)]; exact e4.2.2.2.2.1
      · intro j hj
        rw [hv _ (by omega)]; exact e4.2.2.2.2.2.1 j hj
      · show (if 5 = 5 then u 5 - A else u' 5) ≤ 99
        rw [if_pos rfl]; omega
      · show a3.2.2.2.2.2.2.1 = upd (upd d3.1 7 (d3.1 7 + 1)) 8 _ 6
        rw [upd_ne (by omega), upd_ne (by omega), e9 6 (by omega) (by omega), f6, c6]
      · show a3.2.2.2.2.2.2.2.1 + 1 = upd (upd d3.1 7 (d3.1 7 + 1)) 8 _ 7
        rw [upd_ne (by omega), upd_eq, e9 7 (by omega) (by omega), f7, c7]
      · show a3.2.2.2.2.2.2.2.2.1 + nI A = upd (upd d3.1 7 (d3.1 7 + 1)) 8 (upd d3.1 7 (d3.1 7 + 1) 8 + nI A) 8
        rw [upd_eq, upd_ne (by omega), e9 8 (by omega) (by omega), f8, c8]
      · show a3.2.2.2.2.2.2.2.2.2 = upd (upd d3.1 7 (d3.1 7 + 1)) 8 _ 9
        rw [upd_ne (by omega), upd_ne (by omega), e9 9 (by omega) (by omega), f9, c9]
    · obtain ⟨b, hb, hMb, hMn⟩ := hM i (by omega)
      obtain ⟨r', q1, q2, q3, q4⟩ := mile5 (r := a3) (lim := lim) (s0 := (u', A)) hb (by omega) e3 e4 hA
      obtain ⟨y', q5, q6, q7, q8⟩ := mile6 (y := d3) (lim := lim) (s0 := (u', A)) hb (by omega) (by omega) hl1 (e5 ▸ hl2 : lim ≤ u' 1) (by rw [e5]; exact hl3) e4 hA rfl e7 p2 w hMn k2
      rw [hMb, q5]
      have hm8 := nf_mono (lim := lim) (b := b) (s := (u', A)) 0 8
      simp only [nf, Nat.zero_add] at hm8
      have e33 : f_X3_workNight_l33 (nI a) p2 w (nI lim) k1 (nI A, nI i, a3) = k1 (nI (nf lim b (u', A) 8).2, nI (i + 1), r') := by
        unfold f_X3_workNight_l33
        rw [if_neg (by rw [habs]; show ¬ nI m ≤ nI i; rw [nI_leI (by omega) (by omega)]; omega)]
        simp only [hMb, q1, Option.bind_some, nI_add, nI_1]
        rw [show A + ((nf lim b (u', A) 8).2 - A) = (nf lim b (u', A) 8).2 by have := nf_mono (lim := lim) (b := b) (s := (u', A)) 0 8; simp only [Nat.zero_add] at this; have e : (nf lim b (u', A) 0).2 = A := rfl; omega]
      rw [e33]
      refine hk _ _ ⟨i + 1, (nf lim b (u', A) 8).1, (nf lim b (u', A) 8).2, by omega, nf_le (b := b) (s := (u', A)) hA 8, rfl, rfl, rfl, ?_, q2, q3, ?_, ?_, ?_, q6, q7.trans e8, fun k h6 h12 => (q8 k h6 h12).trans (e9 k h6 h12)⟩ ?_
      · show nI b + w = nI a + nI (i + 1) * w
        rw [← hMb, ← nI_1, Int32.add_mul, Int32.one_mul, Int32.add_assoc]
      · rw [nf_low 8 (by omega)]; exact e5
      · rw [nf_low 8 (by omega)]; exact e5'
      · exact q4.trans e6
      · show 16 - (nI (i + 1)).toNatClampNeg < 16 - (nI i).toNatClampNeg
        rw [nI_clamp (by omega), nI_clamp (by omega)]; omega
  · show nI a = nI a + nI 0 * w
    rw [show nI 0 = (0 : Int32) from rfl, Int32.zero_mul, Int32.add_zero]
  · exact hz.at (by omega) (Or.inl (by omega))
end LW
