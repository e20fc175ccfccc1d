/-! one order of a text -/
theorem day1 {y : TX6s} {w : Int32} {Y : TX6s} (h : lpN (f_X6_pass_l21 (nI 1)) 3000 (0, 0, y) = some (w, Y)) : ∃ v, f_X6_day y = some (v, Y) := by
  rw [lp3000] at h
  have e : ∀ k, f_X6_pass_l21 (nI 1) k (0, 0, y) = (f_X6_day y).bind fun t => k (0 + t.1, 0 + 1, t.2) := by
    intro k
    unfold f_X6_pass_l21
    rw [if_neg (show ¬ nI 1 ≤ (0 : Int32) by decide)]
  rw [e] at h
  cases hd : f_X6_day y with
  | none => rw [hd] at h; exact absurd h (by simp)
  | some t =>
    rw [hd, Option.bind_some, lp2999] at h
    have e2 : ∀ k, f_X6_pass_l21 (nI 1) k (0 + t.1, 0 + 1, t.2) = some (0 + t.1, t.2) := by
      intro k
      unfold f_X6_pass_l21
      rw [if_pos (show nI 1 ≤ (0 : Int32) + 1 by decide)]
    rw [e2] at h
    cases h
    exact ⟨t.1, rfl⟩
section ON
variable {x : TX5s} {y : TX6s} {n : Nat}
theorem one_u (h : RZ x.1 y.1) (hn : n ≤ 70) (h2 : x.2.2.2.2.1.2 = nI n) (hL : ∀ i, i < n → ∃ v : Nat, 33 ≤ v ∧ v ≤ 126 ∧ x.2.2.2.2.1.1 i = nI v) {s j : Nat} (hj : j ≤ 35) (hg : (oe n x.2.2.2.2.1.1 s).2 = true) (ht0 : y.2.2.2.2.2.2.2.2.1 (4 * j) = x.2.2.2.2.1.1 s) (htk : ∀ k, 1 ≤ k → k < fLen (fOf (x.2.2.2.2.1.1 s)) → y.2.2.2.2.2.2.2.2.1 (4 * j + k) = vl (kdOf (fOf (x.2.2.2.2.1.1 s)) k) (x.2.2.2.2.1.1 (s + k))) :
    (∃ r' z', f_X5_carriesOutOrder x (nI s) = some (1, (r', x.2)) ∧ f_X6_carryOutOne y (nI (4 * j)) = some (0, (z', y.2)) ∧ RZ r' z') ∨ (∃ v : Int32, v ≠ 0 ∧ f_X5_carriesOutOrder x (nI s) = some (0, x) ∧ f_X6_carryOutOne y (nI (4 * j)) = some (v, y)) := by
  obtain ⟨g1, g2, _, g4⟩ := oe_good hg
  have harg : ∀ k, 1 ≤ k → k ≤ 3 → ∃ v, f_X2_argument x.2.2.2.2.1 (nI s) (nI k) = some v ∧ (k < fLen (fOf (x.2.2.2.2.1.1 s)) → y.2.2.2.2.2.2.2.2.1 (4 * j + k) = v ∧ v = vl (kdOf (fOf (x.2.2.2.2.1.1 s)) k) (x.2.2.2.2.1.1 (s + k)) ∧ chk (kdOf (fOf (x.2.2.2.2.1.1 s)) k) (x.2.2.2.2.1.1 (s + k)) = true) := by
    intro k k1 k3
    by_cases hk : k < fLen (fOf (x.2.2.2.2.1.1 s))
    · obtain ⟨w1, w2⟩ := g4 k k1 hk
      obtain ⟨v, hv1, hv2, hv3⟩ := hL _ w1
      exact ⟨_, arg_in hn h2 w1 g2 k1 hk hv2 hv3 w2, fun _ => ⟨htk k k1 hk, rfl, w2⟩⟩
    · obtain ⟨v, hv⟩ := arg_out hn h2 g1 g2 (show fLen (fOf (x.2.2.2.2.1.1 s)) ≤ k by omega) k3
      exact ⟨v, hv, fun z => absurd z hk⟩
  obtain ⟨p, ep, fp⟩ := harg 1 (by omega) (by omega)
  obtain ⟨q, eq, fq⟩ := harg 2 (by omega) (by omega)
  obtain ⟨c, ec, fc⟩ := harg 3 (by omega) (by omega)
  unfold f_X5_carriesOutOrder f_X6_carryOutOne
  rw [codeAt_u hn h2 g1, Option.bind_some, show (1 : Int32) = nI 1 from rfl, ep, Option.bind_some, show (2 : Int32) = nI 2 from rfl, eq, Option.bind_some, show (3 : Int32) = nI 3 from rfl, ec, Option.bind_some]
  simp only [nI_add, nI_clamp (show 4 * j < 2 ^ 31 by omega), nI_clamp (show 4 * j + 1 < 2 ^ 31 by omega), nI_clamp (show 4 * j + 2 < 2 ^ 31 by omega), nI_clamp (show 4 * j + 3 < 2 ^ 31 by omega), g_in2 (show 4 * j < 144 by omega) (by omega), g_in2 (show 4 * j + 1 < 144 by omega) (by omega), g_in2 (show 4 * j + 2 < 144 by omega) (by omega), g_in2 (show 4 * j + 3 < 144 by omega) (by omega), ↓reduceIte, ht0]
  unfold f_X5_orderError
  rcases fOf_cases (x.2.2.2.2.1.1 s) with ⟨e, _⟩ | ⟨e, e2⟩ | ⟨e, e2⟩ | ⟨e, e2⟩ | ⟨e, e2⟩ | ⟨e, e2⟩
  · exact absurd e g2
  · rw [e] at fp fq fc
    obtain ⟨p1, p2, p3⟩ := fp (by decide)
    obtain ⟨q1, q2, q3⟩ := fq (by decide)
    obtain ⟨c1, c2, c3⟩ := fc (by decide)
    rw [p1, q1, c1]
    simp only [e2, ↓reduceIte]
    have h0 := h
    obtain ⟨u, hr, hz, hu, _⟩ := h0
    rcases arrowError_u (x := x) (y := y) hr hz hu p q c with ⟨a, b, d, ha, hb, hd, rfl, rfl, rfl, k1, k2⟩ | ⟨v, hv, k1, k2⟩
    · obtain ⟨v, r', z', w1, w2, _, w4⟩ := put_A (y := y) h ha hb hd
      rw [li1] at w2
      simp only [k1, k2, Option.bind_some, ↓reduceIte, w1, cellAt_n, w2]
      exact Or.inl ⟨r', z', by first | trivial | rfl, by first | trivial | rfl, w4⟩
    · have hv0 : v ≠ 0 := fun z => by rw [z] at hv; exact absurd hv (by decide)
      simp only [k1, k2, Option.bind_some, if_neg hv0]
      exact Or.inr ⟨v, hv0, by first | trivial | rfl, by first | trivial | rfl⟩
  · simp only [e2, show ¬ (100 : Int32) = 97 by decide, show ¬ (100 : Int32) = 108 by decide, show ¬ (100 : Int32) = 110 by decide, show ¬ (100 : Int32) = 119 by decide, ↓reduceIte, Option.bind_some]
    obtain ⟨w, r', z', w1, w2, w4⟩ := days_u (y := y) h (show 1 ≤ 30 by omega)
    obtain ⟨v, w3⟩ := day1 w2
    rw [w1, w3]
    exact Or.inl ⟨r', z', by first | trivial | rfl, by first | trivial | rfl, w4⟩
  · rw [e] at fp fq fc
    obtain ⟨p1, p2, p3⟩ := fp (by decide)
    obtain ⟨q1, q2, q3⟩ := fq (by decide)
    obtain ⟨c1, c2, c3⟩ := fc (by decide)
    rw [p1, q1, c1]
    obtain ⟨a, ha, a1⟩ := vl_n (by decide) p3
    obtain ⟨b, hb, b1⟩ := vl_n (by decide) q3
    obtain ⟨d, hd, d1⟩ := vl_n (by decide) c3
    rw [a1] at p2
    rw [b1] at q2
    rw [d1] at c2
    subst p2 q2 c2
    clear a1 b1 d1 p3 q3 c3
    replace ha : a ≤ 1 := ha
    replace hb : b ≤ 15 := hb
    replace hd : d ≤ 3 := hd
    have hpe : f_X5_placeError (nI a) 2 (nI b) (nI d) 4 = some 0 := placeError_0 (N := 3) (by rw [place2]; unfold f_X6_isLine; rw [in_yes li0 li1 (by omega) ha (by omega), in_yes li0 li15 (by omega) hb (by omega)]; rfl) (in_yes li0 li3 (by omega) hd (by omega)) (by decide)
    obtain ⟨r', z', w1, w2, w4⟩ := put_D (y := y) h (show a < 2 by omega) (show b < 16 by omega) (show d < 4 by omega)
    simp only [e2, show ¬ (108 : Int32) = 97 by decide, show ¬ (108 : Int32) = 100 by decide, ↓reduceIte, hpe, Option.bind_some, w1, lineAt_n, w2]
    exact Or.inl ⟨r', z', by first | trivial | rfl, by first | trivial | rfl, w4⟩
  · rw [e] at fp fq
    obtain ⟨p1, p2, p3⟩ := fp (by decide)
    obtain ⟨q1, q2, q3⟩ := fq (by decide)
    rw [p1, q1]
    simp only [e2, show ¬ (110 : Int32) = 97 by decide, show ¬ (110 : Int32) = 100 by decide, show ¬ (110 : Int32) = 108 by decide, ↓reduceIte]
    rcases nightError_u (x := x) (y := y) h p q with ⟨a, b, ha, hb, rfl, rfl, k1, k2⟩ | ⟨v, hv, k1, k2⟩
    · obtain ⟨v, r', z', w1, w2, w4⟩ := workNight_u (y := y) h ha hb
      simp only [k1, k2, Option.bind_some, ↓reduceIte, w1, w2]
      exact Or.inl ⟨r', z', by first | trivial | rfl, by first | trivial | rfl, w4⟩
    · have hv0 : v ≠ 0 := fun z => by rw [z] at hv; exact absurd hv (by decide)
      simp only [k1, k2, Option.bind_some, if_neg hv0]
      exact Or.inr ⟨v, hv0, by first | trivial | rfl, by first | trivial | rfl⟩
  · rw [e] at fp fq fc
    obtain ⟨p1, p2, p3⟩ := fp (by decide)
    obtain ⟨q1, q2, q3⟩ := fq (by decide)
    obtain ⟨c1, c2, c3⟩ := fc (by decide)
    rw [p1, q1, c1]
    obtain ⟨a, ha, a1⟩ := vl_n (by decide) p3
    obtain ⟨b, hb, b1⟩ := vl_n (by decide) q3
    obtain ⟨d, hd, d1⟩ := vl_n (by decide) c3
    rw [a1] at p2
    rw [b1] at q2
    rw [d1] at c2
    subst p2 q2 c2
    clear a1 b1 d1 p3 q3 c3
    replace ha : a ≤ 2 := ha
    replace hb : b ≤ 15 := hb
    replace hd : d ≤ 3 := hd
    have hpe : f_X5_placeError (nI a) 3 (nI b) (nI d) 4 = some 0 := placeError_0 (N := 3) (by rw [place3]; unfold f_X6_isCell; rw [in_yes li0 li2 (by omega) ha (by omega), in_yes li0 li15 (by omega) hb (by omega)]; rfl) (in_yes li0 li3 (by omega) hd (by omega)) (by decide)
    obtain ⟨v, r', z', w1, w2, _, w4⟩ := put_W (y := y) h (show a < 3 by omega) (show b < 16 by omega) (show d < 4 by omega)
    rw [li1, li2] at w2
    simp only [e2, show ¬ (119 : Int32) = 97 by decide, show ¬ (119 : Int32) = 100 by decide, show ¬ (119 : Int32) = 108 by decide, show ¬ (119 : Int32) = 110 by decide, ↓reduceIte, hpe, Option.bind_some, w1, cellAt_n, w2]
    exact Or.inl ⟨r', z', by first | trivial | rfl, by first | trivial | rfl, w4⟩
end ON
