/-! the reference's search for an error, and the orders that it told -/
theorem rsF_good {n : Nat} {L : Nat → Int32} {q : Nat} : ∀ m k p, (rsF n L q m k (p, true)).2 = true → (rsF n L q m k (p, true)).1 = p + m ∧ ∀ i, i < m → p + i < n ∧ chk (kdOf q (k + i)) (L (p + i)) = true := by
  intro m
  induction m with
  | zero => intro k p _; exact ⟨rfl, fun i hi => by omega⟩
  | succ m ih =>
    intro k p h
    rw [rsF] at h ⊢
    by_cases h1 : p < n ∧ chk (kdOf q k) (L p) = true
    · rw [stp_yes h1.1 h1.2] at h ⊢
      obtain ⟨g1, g2⟩ := ih (k + 1) (p + 1) h
      refine ⟨by rw [g1]; omega, fun i hi => ?_⟩
      by_cases h0 : i = 0
      · subst h0; exact h1
      · have := g2 (i - 1) (by omega)
        rw [show p + 1 + (i - 1) = p + i by omega, show k + 1 + (i - 1) = k + i by omega] at this
        exact this
    · rw [stp_no h1, rsF_bad] at h
      exact ff h
theorem oe_good {n : Nat} {L : Nat → Int32} {s : Nat} (h : (oe n L s).2 = true) : s < n ∧ fOf (L s) ≠ 6 ∧ (oe n L s).1 = s + fLen (fOf (L s)) ∧ ∀ k, 1 ≤ k → k < fLen (fOf (L s)) → s + k < n ∧ chk (kdOf (fOf (L s)) k) (L (s + k)) = true := by
  by_cases h0 : s < n ∧ fOf (L s) ≠ 6
  · have ho : oe n L s = rsF n L (fOf (L s)) (fLen (fOf (L s)) - 1) 1 (s + 1, true) := if_pos h0
    rw [ho] at h ⊢
    have hl := fLen_le (show fOf (L s) < 6 by have := fOf_le h0.2; omega)
    obtain ⟨g1, g2⟩ := rsF_good _ _ _ h
    refine ⟨h0.1, h0.2, by rw [g1]; omega, fun k k1 k2 => ?_⟩
    have := g2 (k - 1) (by omega)
    rw [show s + 1 + (k - 1) = s + k by omega, show 1 + (k - 1) = k by omega] at this
    exact this
  · have ho : oe n L s = (s, false) := if_neg h0
    rw [ho] at h
    exact ff h
theorem rsF_le {n : Nat} {L : Nat → Int32} {q : Nat} (hn : n ≤ 70) : ∀ m k st, st.1 ≤ 70 → (rsF n L q m k st).1 ≤ 70 := by
  intro m
  induction m with
  | zero => intro k st h; exact h
  | succ m ih => intro k st h; rw [rsF]; exact ih _ _ (stp_le hn h)
theorem oe_le {n : Nat} {L : Nat → Int32} {s : Nat} (hn : n ≤ 70) (hs : s ≤ n) : (oe n L s).1 ≤ 70 := by
  unfold oe
  split
  · rename_i h
    exact rsF_le hn _ _ _ (by show s + 1 ≤ 70; omega)
  · show s ≤ 70; omega
/-- the orders told, from the start to a place -/
def Told (n : Nat) (L : Nat → Int32) (told : Nat → Int32) (S : Nat → Nat) (t : Nat) : Prop := S 0 = 0 ∧ ∀ j, j < t → (oe n L (S j)).2 = true ∧ S (j + 1) = S j + fLen (fOf (L (S j))) + 1 ∧ told (4 * j) = L (S j) ∧ ∀ k, 1 ≤ k → k < fLen (fOf (L (S j))) → told (4 * j + k) = vl (kdOf (fOf (L (S j))) k) (L (S j + k))
theorem Told.next {n : Nat} {L : Nat → Int32} {told told' : Nat → Int32} {S : Nat → Nat} {t : Nat} (h : Told n L told S t) (hk : ∀ i, i < 4 * t → told' i = told i) (hg : (oe n L (S t)).2 = true) (hq : told' (4 * t) = L (S t) ∧ ∀ k, 1 ≤ k → k < fLen (fOf (L (S t))) → told' (4 * t + k) = vl (kdOf (fOf (L (S t))) k) (L (S t + k))) : Told n L told' (fun j => if j = t + 1 then S t + fLen (fOf (L (S t))) + 1 else S j) (t + 1) := by
  obtain ⟨h0, h1⟩ := h
  refine ⟨by show (if 0 = t + 1 then _ else S 0) = 0; rw [if_neg (by omega)]; exact h0, fun j hj => ?_⟩
  have e1 : (if j = t + 1 then S t + fLen (fOf (L (S t))) + 1 else S j) = S j := if_neg (by omega)
  simp only [e1]
  by_cases hjt : j = t
  · subst hjt
    rw [if_pos rfl]
    exact ⟨hg, rfl, hq.1, hq.2⟩
  · obtain ⟨g1, g2, g3, g4⟩ := h1 j (by omega)
    have hl := fLen_le (show fOf (L (S j)) < 6 by have := fOf_le (oe_good g1).2.1; omega)
    rw [if_neg (by omega)]
    refine ⟨g1, g2, by rw [hk _ (by omega)]; exact g3, fun k k1 k2 => by rw [hk _ (by omega)]; exact g4 k k1 k2⟩
theorem fe_st {n : Nat} {L : Nat → Int32} : ∀ f f' s, s ≤ n → n + 1 - s ≤ f → n + 1 - s ≤ f' → fe n L f s = fe n L f' s := by
  intro f
  induction f with
  | zero => intro f' s h1 h2; omega
  | succ f ih =>
    intro f' s h1 h2 h3
    obtain ⟨g, rfl⟩ : ∃ g, f' = g + 1 := ⟨f' - 1, by omega⟩
    rw [fe, fe]
    unfold fin
    by_cases hb : (oe n L s).2 = true
    · rw [if_pos hb, if_pos hb]
      by_cases hp : n ≤ (oe n L s).1
      · rw [if_pos hp, if_pos hp]
      · rw [if_neg hp, if_neg hp]
        by_cases h59 : L (oe n L s).1 = 59
        · rw [if_pos h59, if_pos h59]
          have hg := oe_good hb
          have hl := fLen_le (show fOf (L s) < 6 by have := fOf_le hg.2.1; omega)
          exact ih g _ (by omega) (by omega) (by omega)
        · rw [if_neg h59, if_neg h59]
    · rw [if_neg hb, if_neg hb]
section WR
variable {y : TX6s} {n : Nat} {L : Nat → Int32}
theorem sT_w {told : Nat → Int32} {m : Int32} {p : Nat} {b : Bool} (hp : p ≤ 70) : ((sT y told m (p, b)).2.2.2.2.2.2.2.2.2.2.2 = -6) = (b = true) := by
  cases b with
  | true => exact propext ⟨fun _ => rfl, fun _ => rfl⟩
  | false =>
    show (nI p = -6) = (false = true)
    rw [nI_ne6 (by omega)]
    simp
theorem wrong_u (h : TY y n L) : ∃ told t s w, f_X6_errorPosition y = some (fe n L 71 0, setT y told t s w) ∧ (fe n L 71 0 = -6 → ∃ T S, t = nI T ∧ T ≤ 36 ∧ Told n L told S T ∧ S T = n + 1) := by
  have hn := h.1
  unfold f_X6_errorPosition
  generalize hR : fe n L 71 0 = R
  refine lpN_rule f_X6_errorPosition_l18 (fun _ r => ∃ told t s w, r = some (R, setT y told t s w) ∧ (R = -6 → ∃ T S, t = nI T ∧ T ≤ 36 ∧ Told n L told S T ∧ S T = n + 1)) (fun a => (∃ told T S, a = (1, setT y told (nI T) (nI (S T)) (-6)) ∧ S T ≤ n ∧ 2 * T ≤ S T ∧ Told n L told S T ∧ ∀ f, n + 1 - S T ≤ f → R = fe n L f (S T)) ∨ (∃ told t s, a = (0, setT y told t s (R)) ∧ (R = -6 → ∃ T S, t = nI T ∧ T ≤ 36 ∧ Told n L told S T ∧ S T = n + 1))) (fun a => if a.1 = 0 then 0 else 72 - a.2.2.2.2.2.2.2.2.2.2.2.1.toNatClampNeg) ?_ 3000 _ (Or.inl ⟨y.2.2.2.2.2.2.2.2.1, 0, fun _ => 0, rfl, Nat.zero_le _, Nat.le_refl _, ⟨rfl, fun j hj => by omega⟩, fun f hf => hR ▸ fe_st _ _ _ (Nat.zero_le _) (by show n + 1 - 0 ≤ 71; omega) hf⟩) ?_
  · rintro K ⟨a1, a2⟩ hI hK
    rcases hI with ⟨told, T, S, e, hS, h2T, hT, hf⟩ | ⟨told, t, s, e, ht⟩
    · cases e
      obtain ⟨told', q1, q2, q3⟩ := order_s h (t := T) (s := S T) (by omega) hS told
      have hle := oe_le (L := L) hn hS
      obtain ⟨f0, hf0⟩ : ∃ f0, n + 1 - S T = f0 + 1 := ⟨n - S T, by omega⟩
      have hfe := hf (f0 + 1) (by omega)
      rw [fe] at hfe
      have hfe2 : ∀ f, n + 1 - S T ≤ f + 1 → R = fin n L (fe n L f) (oe n L (S T)) := fun f h1 => hf (f + 1) h1
      have hnext : (oe n L (S T)).2 = true → Told n L told' (fun j => if j = T + 1 then S T + fLen (fOf (L (S T))) + 1 else S j) (T + 1) := fun hg => hT.next q2 hg (q3 hg)
      have hgood := @oe_good n L (S T)
      have h71 : ∀ w : Nat, (if (1 : Int32) = 0 then 0 else 72 - (nI (S T)).toNatClampNeg) = 72 - S T := by intro w; rw [if_neg (by decide), nI_clamp (by omega)]
      unfold f_X6_errorPosition_l18
      rw [if_neg (show ¬ (1 : Int32) = 0 by decide), q1, Option.bind_some]
      generalize hoe : oe n L (S T) = st at *
      obtain ⟨p, b⟩ := st
      simp only at hle
      unfold f_X6_errorPosition_j50 f_X6_errorPosition_j51 f_X6_errorPosition_j71
      simp only [sT_w hle]
      cases b with
      | false =>
        rw [if_neg (by decide), if_pos trivial]
        rw [fin, if_neg (by simp)] at hfe
        refine hK _ (Or.inr ⟨told', nI (T + 1), nI (p + 1), ?_, fun z => ?_⟩) ?_
        · rw [hfe]; rfl
        · rw [hfe, nI_ne6 (by omega)] at z; exact z.elim
        · show (if (0 : Int32) = 0 then 0 else _) < (if (1 : Int32) = 0 then 0 else 72 - (nI (S T)).toNatClampNeg)
          rw [if_pos rfl, h71 0]; omega
      | true =>
        obtain ⟨g1, g2, g3, g4⟩ := hgood rfl
        simp only at g3
        have hl := fLen_le (show fOf (L (S T)) < 6 by have := fOf_le g2; omega)
        have hpn : p ≤ n := by
          by_cases h1 : fLen (fOf (L (S T))) = 1
          · omega
          · have := (g4 (fLen (fOf (L (S T))) - 1) (by omega) (by omega)).1
            omega
        have q7 : (sT y told' (nI (T + 1)) (p, true)).2.2.2.2.2.2.1 = nI n := h.2.1
        have q8 : (sT y told' (nI (T + 1)) (p, true)).2.2.2.2.2.2.2.2.2.2.1 = nI p := rfl
        rw [if_pos rfl]
        simp only [q7, q8, leN (show n < 2 ^ 31 by omega) (show p < 2 ^ 31 by omega)]
        by_cases hnp : n ≤ p
        · rw [if_pos hnp, if_pos trivial]
          rw [fin, if_pos rfl, if_pos hnp] at hfe
          refine hK _ (Or.inr ⟨told', nI (T + 1), nI p, ?_, fun _ => ⟨T + 1, _, rfl, by omega, hnext rfl, ?_⟩⟩) ?_
          · rw [hfe]; rfl
          · show (if T + 1 = T + 1 then S T + fLen (fOf (L (S T))) + 1 else S (T + 1)) = n + 1
            rw [if_pos rfl]; omega
          · show (if (0 : Int32) = 0 then 0 else _) < (if (1 : Int32) = 0 then 0 else 72 - (nI (S T)).toNatClampNeg)
            rw [if_pos rfl, h71 0]; omega
        · rw [if_neg hnp, if_neg (by decide), sT_t, letter_s h p (by omega), Option.bind_some, if_neg hnp]
          have w1 := wants_s (y := y) (told := told') (m := nI (T + 1)) p true
          have w0 := wants_s (y := y) (told := told') (m := nI (T + 1)) p false
          simp only [↓reduceIte, Bool.false_eq_true] at w1 w0
          by_cases h59 : L p = 59
          · rw [if_pos h59, w1, Option.bind_some, if_pos (by rfl)]
            refine hK _ (Or.inl ⟨told', T + 1, _, ?_, ?_, ?_, hnext rfl, ?_⟩) ?_
            · show (1, setT y told' (nI (T + 1)) (nI (p + 1)) (-6)) = (1, setT y told' (nI (T + 1)) (nI (if T + 1 = T + 1 then S T + fLen (fOf (L (S T))) + 1 else S (T + 1))) (-6))
              rw [if_pos rfl, show S T + fLen (fOf (L (S T))) + 1 = p + 1 by omega]
            · show (if T + 1 = T + 1 then S T + fLen (fOf (L (S T))) + 1 else S (T + 1)) ≤ n
              rw [if_pos rfl]; omega
            · show 2 * (T + 1) ≤ (if T + 1 = T + 1 then S T + fLen (fOf (L (S T))) + 1 else S (T + 1))
              rw [if_pos rfl]; omega
            · intro f hf3
              have hv : (if T + 1 = T + 1 then S T + fLen (fOf (L (S T))) + 1 else S (T + 1)) = p + 1 := by rw [if_pos rfl]; omega
              have hf5 : n + 1 - (if T + 1 = T + 1 then S T + fLen (fOf (L (S T))) + 1 else S (T + 1)) ≤ f := hf3
              rw [hv] at hf5
              show R = fe n L f (if T + 1 = T + 1 then S T + fLen (fOf (L (S T))) + 1 else S (T + 1))
              rw [if_pos rfl, show S T + fLen (fOf (L (S T))) + 1 = p + 1 by omega, hfe, fin, if_pos rfl, if_neg hnp, if_pos h59]
              exact fe_st f0 f (p + 1) (by omega) (by omega) hf5
            · show (if (1 : Int32) = 0 then 0 else 72 - (nI (p + 1)).toNatClampNeg) < (if (1 : Int32) = 0 then 0 else 72 - (nI (S T)).toNatClampNeg)
              rw [h71 0, if_neg (by decide), nI_clamp (by omega)]; omega
          · rw [if_neg h59, w0, Option.bind_some, if_neg (by show ¬ nI p = -6; rw [nI_ne6 (by omega)]; exact id)]
            rw [fin, if_pos rfl, if_neg hnp, if_neg h59] at hfe
            refine hK _ (Or.inr ⟨told', nI (T + 1), nI (p + 1), ?_, fun z => ?_⟩) ?_
            · rw [hfe]; rfl
            · rw [hfe, nI_ne6 (by omega)] at z; exact z.elim
            · show (if (0 : Int32) = 0 then 0 else _) < (if (1 : Int32) = 0 then 0 else 72 - (nI (S T)).toNatClampNeg)
              rw [if_pos rfl, h71 0]; omega
    · cases e
      unfold f_X6_errorPosition_l18
      rw [if_pos rfl]
      exact ⟨told, t, s, _, rfl, ht⟩
  · show (if (1 : Int32) = 0 then 0 else 72 - (0 : Int32).toNatClampNeg) < 3000
    rw [if_neg (by decide)]; omega
end WR
