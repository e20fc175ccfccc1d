/-! what the law asks of one word and of one change of lane -/
abbrev TLv : Type := Int32 × TX5s × TV48s × TV48s × TV48s × TV48s × TV32s × TV32s × TV10s
def LR (x : TX5s) (a p w q d e t : Nat → Int32) : Prop := (∃ u, RdU u x.1 ∧ UOk u ∧ AR u a p w q d e t) ∧ Cnt x.1 t ∧ HS x.2.2.2.1
section RB
variable {u : Nat → Nat} {a p w q d e t : Nat → Int32} {x : TX5s}
/-- the law's loss of a word -/
def lwN (u : Nat → Nat) (s : Nat) : Nat := if u (14 + 4 * s) = 1 ∨ u (14 + 4 * s) = 2 then u (2 + s / 16) / 2 else u (2 + s / 16)
/-- how many days, as the class says -/
def rdV (u : Nat → Nat) (s : Nat) : Int32 := if u (14 + 4 * s) = 0 then -6 else if u (15 + 4 * s) < u 0 then 0 else if lwN u s = 0 then -6 else nI ((u (15 + 4 * s) - u 0) / lwN u s + 1)
theorem readV (hr : RdU u x.1) (hu : UOk u) {s : Nat} (hs : s < 48) : f_X5_readableFor x (nI (s / 16)) (nI (s % 16)) = some (rdV u s) := by
  have e16 : 16 * (s / 16) + s % 16 = s := by omega
  rw [readC hr hu (show s / 16 < 3 by omega) (show s % 16 < 16 by omega), e16]
  unfold rdV
  by_cases c0 : u (14 + 4 * s) = 0
  · rw [if_pos c0, if_pos c0]
  · rw [if_neg c0, if_neg c0]
    by_cases c1 : u (15 + 4 * s) < u 0
    · rw [if_pos c1, if_pos c1]
    · have el : lsN u (s / 16) (s % 16) = lwN u s := by
        unfold lsN lwN
        rw [e16]
        by_cases c2 : u (14 + 4 * s) = 1 ∨ u (14 + 4 * s) = 2
        · rw [if_pos ⟨c2, c1⟩, if_pos c2]
        · rw [if_neg (fun z => c2 z.1), if_neg c2]
      rw [if_neg c1, if_neg c1, el]
theorem days_l (h : AR u a p w q d e t) (hu : UOk u) {s : Nat} (hs : s < 48) (k111 : TLv → Option Int32) (v111 : TLv) (y1 : Int32) (y2 : TX5s) (t18 : Int32 × TX5s) (t26 : Int32) : ∃ y, f_L_law_j1037 k111 v111 (y1, y2, a, p, w, q, d, e, t) t18 t26 (nI s) (if u (14 + 4 * s) = 0 then -6 else 0) = f_L_law_j1141 k111 v111 (y1, y2, a, p, w, q, d, e, t) t18 t26 (nI s) (rdV u s, y) () := by
  obtain ⟨-, -, e3, e4⟩ := h.1 s hs
  have gW := hu.W hs
  have h0 := hu.s0
  have t0 := h.2.2 0 (by omega)
  have tt1 := h.2.2 (2 + s / 16) (by omega)
  have hT := hu.T (show s / 16 < 3 by omega)
  have hlw : lwN u s ≤ 20 := by unfold lwN; split <;> omega
  have hc : (nI s).toNatClampNeg = s := nI_clamp (by omega)
  have hg := g_in2 hs (show 48 < 2 ^ 31 by omega)
  have start : f_L_law_j1037 k111 v111 (y1, y2, a, p, w, q, d, e, t) t18 t26 (nI s) (if u (14 + 4 * s) = 0 then -6 else 0) = lpN (f_L_law_l1090 k111 v111 (y1, y2, a, p, w, q, d, e, t) t18 t26 (nI s) (nI (lwN u s))) 3000 ((if u (14 + 4 * s) = 0 then -6 else 0), nI (u (15 + 4 * s))) := by
    unfold f_L_law_j1037 f_L_law_j1063 f_L_law_j1088
    simp only [hc, hg, ↓reduceIte, e3, e4, wv_lit li0 (show u (14 + 4 * s) < 2 ^ 30 by omega) (by omega), wv_lit li1 (show u (14 + 4 * s) < 2 ^ 30 by omega) (by omega), li16, pk_div (show s < 2 ^ 31 by omega) (show 0 < 16 by omega) (show 16 < 2 ^ 31 by omega), li2, nI_add, nI_clamp (show 2 + s / 16 < 2 ^ 31 by omega), g_in2 (show 2 + s / 16 < 10 by omega) (by omega), tt1, pk_div (show u (2 + s / 16) < 2 ^ 31 by omega) (show 0 < 2 by omega) (show 2 < 2 ^ 31 by omega)]
    unfold lwN
    by_cases c1 : u (14 + 4 * s) = 0 + 1
    · rw [if_pos c1, if_pos (show u (14 + 4 * s) = 1 ∨ u (14 + 4 * s) = 2 from Or.inl c1)]
    · rw [if_neg c1]
      by_cases c2 : u (14 + 4 * s) = 1 + 1
      · rw [if_pos c2, if_pos (show u (14 + 4 * s) = 1 ∨ u (14 + 4 * s) = 2 from Or.inr c2)]
      · rw [if_neg c2, if_neg (show ¬ (u (14 + 4 * s) = 1 ∨ u (14 + 4 * s) = 2) by omega)]
  have stop : ∀ k (D y : Int32), (u (14 + 4 * s) = 0 ∨ y < nI (u 0) ∨ D < 0) → f_L_law_l1090 k111 v111 (y1, y2, a, p, w, q, d, e, t) t18 t26 (nI s) (nI (lwN u s)) k (D, y) = f_L_law_j1141 k111 v111 (y1, y2, a, p, w, q, d, e, t) t18 t26 (nI s) (D, y) () := by
    intro k D y hst
    unfold f_L_law_l1090
    simp only [hc, hg, ↓reduceIte, e3, wv_neg (show u (14 + 4 * s) < 2 ^ 30 by omega), tc0, tg0, tc1, tg1, tc2, tg2, tc3, tg3, tc4, tg4, tc5, tg5, tc6, tg6, tc7, tg7, tc8, tg8, tc9, tg9, t0]
    by_cases c0 : u (14 + 4 * s) = 0
    · rw [if_pos c0]
    · rw [if_neg c0]
      by_cases c1 : y < nI (u 0)
      · rw [if_pos c1]
      · rw [if_neg c1, if_pos]
        rcases hst with z | z | z
        · exact absurd z c0
        · exact absurd z c1
        · exact z
  have go : ∀ k (j : Nat) (y : Int32), u (14 + 4 * s) ≠ 0 → ¬ y < nI (u 0) → j ≤ 300 → f_L_law_l1090 k111 v111 (y1, y2, a, p, w, q, d, e, t) t18 t26 (nI s) (nI (lwN u s)) k (nI j, y) = if j = 300 then k (-6, y - nI (lwN u s)) else k (nI (j + 1), y - nI (lwN u s)) := by
    intro k j y c0 c1 hj
    unfold f_L_law_l1090
    simp only [hc, hg, ↓reduceIte, e3, wv_neg (show u (14 + 4 * s) < 2 ^ 30 by omega), tc0, tg0, tc1, tg1, tc2, tg2, tc3, tg3, tc4, tg4, tc5, tg5, tc6, tg6, tc7, tg7, tc8, tg8, tc9, tg9, t0, c0, c1, ltz (show j < 2 ^ 31 by omega), li300, eqN (show j < 2 ^ 31 by omega) (show 300 < 2 ^ 31 by omega), nI_1]
  rw [start]
  unfold rdV
  by_cases c0 : u (14 + 4 * s) = 0
  · simp only [if_pos c0]
    exact ⟨_, by rw [lp3000, stop _ _ _ (Or.inl c0)]⟩
  · simp only [if_neg c0]
    by_cases c1 : u (15 + 4 * s) < u 0
    · simp only [if_pos c1]
      exact ⟨_, by rw [lp3000, stop _ _ _ (Or.inr (Or.inl (by rw [nI_ltI (by omega) (by omega)]; exact c1)))]⟩
    · simp only [if_neg c1]
      have hQ : ¬ nI (u (15 + 4 * s)) < nI (u 0) := by rw [nI_ltI (by omega) (by omega)]; exact c1
      by_cases c2 : lwN u s = 0
      · simp only [if_pos c2]
        obtain ⟨v, m, hv, hq⟩ := lp_for1 (f_L_law_l1090 k111 v111 (y1, y2, a, p, w, q, d, e, t) t18 t26 (nI s) (nI (lwN u s))) (fun j v => v = (nI j, nI (u (15 + 4 * s)))) 300 (by
          rintro j hj v rfl
          refine ⟨_, rfl, fun k => ?_⟩
          rw [go k j _ c0 hQ (by omega), if_neg (by omega), c2, pk_sub (by omega), Nat.sub_zero]) (a := (0, nI (u (15 + 4 * s)))) rfl (by omega)
        subst hv
        refine ⟨nI (u (15 + 4 * s)) - nI (lwN u s), ?_⟩
        rw [hq, go _ 300 _ c0 hQ (by omega), if_pos rfl, lpN_succ, stop _ _ _ (Or.inr (Or.inr (by decide)))]
      · simp only [if_neg c2]
        have hdm := Nat.div_add_mod (u (15 + 4 * s) - u 0) (lwN u s)
        have hml := Nat.mod_lt (u (15 + 4 * s) - u 0) (show 0 < lwN u s by omega)
        generalize hn : (u (15 + 4 * s) - u 0) / lwN u s = n at hdm ⊢
        generalize (u (15 + 4 * s) - u 0) % lwN u s = r at hdm hml
        have hmono : ∀ j, j ≤ n → lwN u s * j ≤ lwN u s * n := fun j hj => Nat.mul_le_mul_left _ hj
        have hn99 : n ≤ 100 := by
          have h1 : 1 * n ≤ lwN u s * n := Nat.mul_le_mul_right _ (by omega)
          omega
        obtain ⟨v, m, hv, hq⟩ := lp_for1 (f_L_law_l1090 k111 v111 (y1, y2, a, p, w, q, d, e, t) t18 t26 (nI s) (nI (lwN u s))) (fun j v => v = (nI j, nI (u (15 + 4 * s) - lwN u s * j))) n (by
          rintro j hj v rfl
          refine ⟨_, rfl, fun k => ?_⟩
          have h1 := hmono (j + 1) (by omega)
          have h2 : lwN u s * (j + 1) = lwN u s * j + lwN u s := Nat.mul_succ _ _
          rw [go k j _ c0 (by rw [nI_ltI (by omega) (by omega)]; omega) (by omega), if_neg (by omega), pk_sub (by omega), show u (15 + 4 * s) - lwN u s * j - lwN u s = u (15 + 4 * s) - lwN u s * (j + 1) by omega]) (a := (0, nI (u (15 + 4 * s)))) (by rw [Nat.mul_zero, Nat.sub_zero]; rfl) (by omega)
        subst hv
        refine ⟨nI (u (15 + 4 * s) - lwN u s * n) - nI (lwN u s), ?_⟩
        have hlow : nI (u (15 + 4 * s) - lwN u s * n) - nI (lwN u s) < nI (u 0) := by
          by_cases hz : lwN u s ≤ u (15 + 4 * s) - lwN u s * n
          · rw [pk_sub hz, nI_ltI (by omega) (by omega)]; omega
          · exact Int32.lt_trans (pk_sneg (by omega) (by omega)) (show (0 : Int32) < nI (u 0) by rw [li0, nI_ltI (by omega) (by omega)]; omega)
        rw [hq, go _ n _ c0 (by rw [nI_ltI (by omega) (by omega)]; omega) (by omega), if_neg (by omega), lpN_succ, stop _ _ _ (Or.inr (Or.inl hlow))]
/-- the turn's end: the word, the change of lane -/
theorem end_u (hr : RdU u x.1) (h : AR u a p w q d e t) (hu : UOk u) {s : Nat} (hs : s < 48) (k111 : TLv → Option Int32) (v111 : TLv) (y1 : Int32) (y2 : TX5s) (z1 : Int32) (t26 y : Int32) {M : Int32} (hM : v111.1 + 1 = M) (hk : k111 (M, x, a, p, w, q, d, e, t) = some 1) : f_L_law_j1141 k111 v111 (y1, y2, a, p, w, q, d, e, t) (z1, x) t26 (nI s) (rdV u s, y) () = some 1 := by
  rw [← hM] at hk
  have dv : nI s / 16 = nI (s / 16) := by rw [li16, pk_div (by omega) (by omega) (by omega)]
  have md : nI s - nI (s / 16) * 16 = nI (s % 16) := by
    have := mod16 hs
    rw [← li16, dv] at this
    exact this
  have key : ∀ f g (G : Int32), G = nI g → f < 3 → g < 3 → (g = f + 1 ∨ g + 1 = f) → f_L_law_j1173 k111 v111 (y1, y2, a, p, w, q, d, e, t) (z1, x) t26 (nI s) (rdV u s, y) (nI f) G = some 1 := by
    intro f g G hG hf hg hfg
    subst hG
    obtain ⟨k, hk2, e1⟩ := low_u (t26 >>> ((9 : Int32) &&& 31)) li2 (by omega) (by omega)
    have hm : s % 16 < 16 := by omega
    unfold f_L_law_j1173 f_L_law_j1245
    simp only [e1, Option.bind_some, dv, md, readV hr hu hs, ↓reduceIte, mayC hr hu hf hg hfg hm hk2, change_u h hu hf hg (show f ≠ g by omega) hm hk2]
    by_cases ho : okC u f g (s % 16) k = true
    · simp only [if_pos ho, show ¬ (1 : Int32) = 0 by decide, ↓reduceIte]
      exact hk
    · simp only [if_neg ho, ↓reduceIte]
      exact hk
  obtain ⟨f, hf, e1⟩ := low_u (t26 >>> ((6 : Int32) &&& 31)) li3 (by omega) (by omega)
  unfold f_L_law_j1141
  rw [e1, Option.bind_some]
  by_cases h1 : f = 1
  · rw [if_pos (show nI f = 1 by rw [h1]; rfl)]
    obtain ⟨g, hg, e2⟩ := low_u (t26 >>> ((8 : Int32) &&& 31)) li2 (by omega) (by omega)
    rw [e2, Option.bind_some]
    exact key f (2 * g) _ (by rw [li2, pk_mul]) hf (by omega) (by omega)
  · rw [if_neg (show ¬ nI f = 1 by rw [li1, eqN (by omega) (by omega)]; exact h1)]
    exact key f 1 _ li1 hf (by omega) (by omega)
/-- a turn behind its choice -/
theorem turn_a {L : Nat} (xs : Nat → Int32) (hr : RdU u x.1) (hA : AR u a p w q d e t) (hu : UOk u) (hc : Cnt x.1 t) {c : Int32} (k111 : TLv → Option Int32) (v111 : TLv) (h1 : f_L_cell L xs (72 + v111.1) = some c) {s : Nat} (hs : s < 48) (h2 : f_L_low c 48 = some (nI s)) : ∃ dr, f_L_law_j960 L xs k111 v111 (1, x, a, p, w, q, d, e, t) = f_L_law_j1037 k111 v111 (1, x, a, p, w, q, d, e, t) (1, (x.1, x.2.1, x.2.2.1, x.2.2.2.1, x.2.2.2.2.1, dr)) c (nI s) (if u (14 + 4 * s) = 0 then -6 else 0) := by
  obtain ⟨dr, g⟩ := road_u hr hA hu hc
  obtain ⟨b, b1, b2⟩ := best_u (x := (x.1, x.2.1, x.2.2.1, x.2.2.2.1, x.2.2.2.2.1, dr)) hr hA hu
  obtain ⟨-, -, e3, -⟩ := hA.1 s hs
  have gW := hu.W hs
  refine ⟨dr, ?_⟩
  unfold f_L_law_j960
  rw [if_neg (show ¬ (1 : Int32) = 0 by decide)]
  simp only [g, Option.bind_some]
  rw [if_neg (show ¬ (1 : Int32) = 0 by decide)]
  simp only [b1, b2, Option.bind_some, ↓reduceIte]
  rw [h1, Option.bind_some, h2, Option.bind_some]
  simp only [nI_clamp (show s < 2 ^ 31 by omega), g_in2 hs (show 48 < 2 ^ 31 by omega), ↓reduceIte, e3, wv_ge (show u (14 + 4 * s) < 2 ^ 30 by omega)]
  by_cases c0 : u (14 + 4 * s) = 0
  · rw [if_pos c0, if_neg (fun z => z c0)]
  · rw [if_neg c0, if_pos c0]
theorem turn_u {L : Nat} (xs : Nat → Int32) (h : LR x a p w q d e t) {M c : Int32} (k111 : TLv → Option Int32) (v111 : TLv) (hM : v111.1 + 1 = M) (h1 : f_L_cell L xs (72 + v111.1) = some c) (hk : ∀ x', LR x' a p w q d e t → k111 (M, x', a, p, w, q, d, e, t) = some 1) : f_L_law_j960 L xs k111 v111 (1, x, a, p, w, q, d, e, t) = some 1 := by
  obtain ⟨⟨u, hr, hu, hA⟩, hc, hh⟩ := h
  obtain ⟨s, hs, s1⟩ := low_u c li48 (by omega) (by omega)
  obtain ⟨dr, g⟩ := turn_a xs hr hA hu hc k111 v111 h1 hs s1
  obtain ⟨y, hy⟩ := days_l hA hu hs k111 v111 1 x (1, (x.1, x.2.1, x.2.2.1, x.2.2.2.1, x.2.2.2.2.1, dr)) c
  rw [g, hy]
  exact end_u (x := (x.1, x.2.1, x.2.2.1, x.2.2.2.1, x.2.2.2.2.1, dr)) hr hA hu hs k111 v111 1 x 1 c y hM (hk _ ⟨⟨u, hr, hu, hA⟩, hc, hh⟩)
end RB
