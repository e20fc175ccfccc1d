/-! both searches for the best night -/
section LE
variable {r : TX3s} {y : TX6s}
theorem crew_u {u : Nat → Nat} (hr : RdU u r) (hu : UOk u) : f_X3_crewLimit r = some (nI (lmN u)) := by
  have h40 := hu.2.2.2.2.1
  have h99 := hu.2.2.2.2.2.2
  unfold f_X3_crewLimit lmN
  simp only [gcl li1 (show 1 < 2 by omega) (by omega), clk li1 (show 1 < 2 ^ 31 by omega), ↓reduceIte, hr.2.2.2.2.1 1 (by omega), hr.2.2.2.2.2, ltN (show u 1 < 2 ^ 31 by omega) (show u 5 < 2 ^ 31 by omega)]
  split <;> rfl
theorem WN_le {u : Nat → Nat} (hu : UOk u) {a d : Nat} : WN u a d ≤ 40 := by
  have h40 := hu.2.2.2.2.1
  unfold WN lmN
  have hl : (if u 1 < u 5 then u 1 else u 5) ≤ 40 := by split <;> omega
  generalize (if u 1 < u 5 then u 1 else u 5) = l at hl
  split <;> omega
theorem Sp.le {W : Nat → Nat → Nat} {S : Nat → Nat → Prop} {B M : Nat} {N : Int32} (h : Sp W S B M N) {a d : Nat} (hS : S a d) : W a d ≤ B := by
  rcases h with ⟨h1, h2, h3, h4⟩ | ⟨a', d', h1, h2, h3, h4, h5, h6⟩
  · have := h4 a d hS
    omega
  · have := h6 a d hS
    omega
theorem Sp.M_le {W : Nat → Nat → Nat} {S : Nat → Nat → Prop} {B M : Nat} {N : Int32} (h : Sp W S B M N) {d : Nat} (hS : ∀ a e, S a e → e ≤ d) : M ≤ d + 1 := by
  rcases h with ⟨h1, h2, h3, h4⟩ | ⟨a', d', h1, h2, h3, h4, h5, h6⟩
  · omega
  · have := hS a' d' h1
    omega
def allS (a d : Nat) : Prop := a + d ≤ 15
theorem search5 {u : Nat → Nat} (hr : RdU u r) (hu : UOk u) : ∃ N B M, f_X3_nightOfMostSigns r = some N ∧ Sp (WN u) allS B M N := by
  unfold f_X3_nightOfMostSigns
  refine lpN_rule (f_X3_nightOfMostSigns_l10 r) (fun _ res => ∃ N B M, res = some N ∧ Sp (WN u) allS B M N) (fun v => ∃ f B M, f ≤ 16 ∧ B ≤ 40 ∧ M ≤ 16 ∧ v.1 = nI B ∧ v.2.1 = nI M ∧ v.2.2.2 = nI f ∧ Sp (WN u) (fun a d => a < f ∧ a + d ≤ 15) B M v.2.2.1) (fun v => 16 - v.2.2.2.toNatClampNeg) ?_ 3000 (0, 0, -6, 0) ⟨0, 0, 0, by omega, by omega, by omega, rfl, rfl, rfl, Or.inl ⟨rfl, rfl, rfl, fun a d h => absurd h.1 (Nat.not_lt_zero _)⟩⟩ (by omega)
  rintro k ⟨v1, v2, N, v4⟩ ⟨f, B, M, hf, hB, hM, e1, e2, e3, hS⟩ hk
  simp only at e1 e2 e3 hS
  subst e1 e2 e3
  unfold f_X3_nightOfMostSigns_l10
  by_cases h16 : f = 16
  · rw [if_pos (by show (16 : Int32) ≤ nI f; rw [h16]; decide)]
    exact ⟨N, B, M, rfl, hS.same (fun a d => by unfold allS; subst h16; omega)⟩
  · rw [if_neg (by show ¬ (16 : Int32) ≤ nI f; rw [li16, nI_leI (by omega) (by omega)]; omega)]
    refine lpN_rule (f_X3_nightOfMostSigns_l24 r k (nI B, nI M, N, nI f)) (fun _ res => ∃ N B M, res = some N ∧ Sp (WN u) allS B M N) (fun v => ∃ t B M, f ≤ t ∧ t ≤ 16 ∧ B ≤ 40 ∧ M ≤ 16 ∧ v.1 = nI B ∧ v.2.1 = nI M ∧ v.2.2.2.1 = nI (smN u f (t - f)) ∧ v.2.2.2.2 = nI t ∧ Sp (WN u) (fun a d => (a < f ∧ a + d ≤ 15) ∨ (a = f ∧ a + d < t)) B M v.2.2.1) (fun v => 16 - v.2.2.2.2.toNatClampNeg) ?_ 3000 (nI B, nI M, N, 0, nI f) ⟨f, B, M, by omega, by omega, hB, hM, rfl, rfl, by rw [Nat.sub_self]; rfl, rfl, hS.same (fun a d => by show _ ↔ _; omega)⟩ (by omega)
    clear hS hB hM
    rintro k2 ⟨w1, w2, N2, w4, w5⟩ ⟨t, B2, M2, hft, ht, hB, hM, e1, e2, e3, e4, hS⟩ hk2
    simp only at e1 e2 e3 e4 hS
    subst e1 e2 e3 e4
    unfold f_X3_nightOfMostSigns_l24 f_X3_nightOfMostSigns_j85
    by_cases ht16 : t = 16
    · rw [if_pos (by show (16 : Int32) ≤ nI t; rw [ht16]; decide)]
      refine hk _ ⟨f + 1, B2, M2, by omega, hB, hM, rfl, rfl, nI_1 f, hS.same (fun a d => by show _ ↔ _; omega)⟩ ?_
      show 16 - (nI f + 1).toNatClampNeg < 16 - (nI f).toNatClampNeg
      rw [nI_1, nI_clamp (by omega), nI_clamp (by omega)]; omega
    · rw [if_neg (by show ¬ (16 : Int32) ≤ nI t; rw [li16, nI_leI (by omega) (by omega)]; omega)]
      have hs := @smN_le u f (t - f)
      have hc := @cm_le u t
      have hl : lmN u ≤ 99 := by unfold lmN; have := hu.2.2.2.2.1; have := hu.2.2.2.2.2.2; split <;> omega
      have hsum : smN u f (t - f) + cm u t = smN u f (t - f + 1) := by
        unfold smN
        rw [sumN, show f + (t - f) = t by omega]
      have hp : (if nI (lmN u) < nI (smN u f (t - f)) + nI (cm u t) then nI (lmN u) else nI (smN u f (t - f)) + nI (cm u t)) = nI (WN u f (t - f)) := by
        rw [nI_add, hsum]
        unfold WN
        by_cases h : lmN u < smN u f (t - f + 1)
        · rw [if_pos h, if_pos (by rw [nI_ltI (by omega) (by omega)]; exact h)]
        · rw [if_neg h, if_neg (by rw [nI_ltI (by omega) (by omega)]; exact h)]
      have hW := @WN_le u hu f (t - f)
      have hmi : nI t - nI f + 1 = nI (t - f + 1) := by rw [pk_sub hft, nI_1]
      have hpl : 16 * nI f + nI t = nI (17 * f + (t - f)) := by rw [li16, pk_mul, nI_add, show 16 * f + t = 17 * f + (t - f) by omega]
      simp only [countFaded_u hr hu (show t < 16 by omega), crew_u hr hu, Option.bind_some, hp, hmi, hpl, nI_1]
      rw [nI_add, hsum]
      simp only [ltN (show B2 < 2 ^ 31 by omega) (show WN u f (t - f) < 2 ^ 31 by omega), le0 (show WN u f (t - f) < 2 ^ 31 by omega), eqN (show WN u f (t - f) < 2 ^ 31 by omega) (show B2 < 2 ^ 31 by omega), leN (show M2 < 2 ^ 31 by omega) (show t - f + 1 < 2 ^ 31 by omega)]
      have hm : 16 - (nI (t + 1)).toNatClampNeg < 16 - (nI t).toNatClampNeg := by
        rw [nI_clamp (by omega), nI_clamp (by omega)]; omega
      have hSS : ∀ a d, ((a < f ∧ a + d ≤ 15) ∨ (a = f ∧ a + d < t + 1)) ↔ ((a < f ∧ a + d ≤ 15) ∨ (a = f ∧ a + d < t)) ∨ (a = f ∧ d = t - f) := by
        intro a d
        omega
      have take : (B2 < WN u f (t - f) ∨ (0 < WN u f (t - f) ∧ WN u f (t - f) = B2 ∧ t - f + 1 < M2)) → ∃ N B M, k2 (nI (WN u f (t - f)), nI (t - f + 1), nI (17 * f + (t - f)), nI (smN u f (t - f + 1)), nI (t + 1)) = some N ∧ Sp (WN u) allS B M N := by
        intro h
        exact hk2 _ ⟨t + 1, WN u f (t - f), t - f + 1, by omega, by omega, hW, by omega, rfl, rfl, by rw [show t + 1 - f = t - f + 1 by omega], rfl, hS.take hSS h⟩ hm
      have skip : (WN u f (t - f) < B2 ∨ WN u f (t - f) = 0 ∨ (WN u f (t - f) = B2 ∧ M2 ≤ t - f + 1)) → ∃ N B M, k2 (nI B2, nI M2, N2, nI (smN u f (t - f + 1)), nI (t + 1)) = some N ∧ Sp (WN u) allS B M N := by
        intro h
        exact hk2 _ ⟨t + 1, B2, M2, by omega, by omega, hB, hM, rfl, rfl, by rw [show t + 1 - f = t - f + 1 by omega], rfl, hS.skip hSS h (fun a ha => by omega)⟩ hm
      by_cases h1 : B2 < WN u f (t - f)
      · rw [if_pos h1]
        exact take (Or.inl h1)
      · rw [if_neg h1]
        by_cases h2 : WN u f (t - f) = 0
        · rw [if_pos h2]
          exact skip (Or.inr (Or.inl h2))
        · rw [if_neg h2]
          by_cases h3 : WN u f (t - f) = B2
          · rw [if_pos h3]
            by_cases h4 : M2 ≤ t - f + 1
            · rw [if_pos h4]
              exact skip (Or.inr (Or.inr ⟨h3, h4⟩))
            · rw [if_neg h4]
              exact take (Or.inr ⟨by omega, h3, by omega⟩)
          · rw [if_neg h3]
            exact skip (Or.inl (by omega))
/-- the reference's search -/
theorem search6 {u : Nat → Nat} (hz : ZU u y.1) (hu : UOk u) : ∃ N B M, lpN (f_X6_bestNight_l19 y) 3000 (-6, 0, 0) = some N ∧ Sp (WN u) allS B M N := by
  refine lpN_rule (f_X6_bestNight_l19 y) (fun _ res => ∃ N B M, res = some N ∧ Sp (WN u) allS B M N) (fun v => ∃ d B M, d ≤ 16 ∧ B ≤ 40 ∧ v.2.1 = nI B ∧ v.2.2 = nI d ∧ Sp (WN u) (fun a e => e < d ∧ a + e ≤ 15) B M v.1) (fun v => 16 - v.2.2.toNatClampNeg) ?_ 3000 (-6, 0, 0) ⟨0, 0, 0, by omega, by omega, rfl, rfl, Or.inl ⟨rfl, rfl, rfl, fun a d h => absurd h.1 (Nat.not_lt_zero _)⟩⟩ (by omega)
  rintro k ⟨N, v2, v3⟩ ⟨d, B, M, hd, hB, e1, e2, hS⟩ hk
  simp only at e1 e2 hS
  subst e1 e2
  unfold f_X6_bestNight_l19
  by_cases h16 : d = 16
  · rw [if_pos (by show (16 : Int32) ≤ nI d; rw [h16]; decide)]
    exact ⟨N, B, M, rfl, hS.same (fun a e => by unfold allS; subst h16; omega)⟩
  · rw [if_neg (by show ¬ (16 : Int32) ≤ nI d; rw [li16, nI_leI (by omega) (by omega)]; omega)]
    refine lpN_rule (f_X6_bestNight_l28 y k (N, nI B, nI d)) (fun _ res => ∃ N B M, res = some N ∧ Sp (WN u) allS B M N) (fun v => ∃ f B M, f ≤ 16 ∧ B ≤ 40 ∧ v.2.1 = nI B ∧ v.2.2 = nI f ∧ Sp (WN u) (fun a e => (e < d ∧ a + e ≤ 15) ∨ (e = d ∧ a < f ∧ a + e ≤ 15)) B M v.1) (fun v => 16 - v.2.2.toNatClampNeg) ?_ 3000 (N, nI B, 0) ⟨0, B, M, by omega, hB, rfl, rfl, hS.same (fun a e => by show _ ↔ _; omega)⟩ (by omega)
    clear hS hB
    rintro k2 ⟨N2, w2, w3⟩ ⟨f, B2, M2, hf, hB, e1, e2, hS⟩ hk2
    simp only at e1 e2 hS
    subst e1 e2
    unfold f_X6_bestNight_l28
    by_cases hf16 : f = 16
    · rw [if_pos (by show (16 : Int32) ≤ nI f; rw [hf16]; decide)]
      refine hk _ ⟨d + 1, B2, M2, by omega, hB, rfl, nI_1 d, hS.same (fun a e => by show _ ↔ _; omega)⟩ ?_
      show 16 - (nI d + 1).toNatClampNeg < 16 - (nI d).toNatClampNeg
      rw [nI_1, nI_clamp (by omega), nI_clamp (by omega)]; omega
    · rw [if_neg (by show ¬ (16 : Int32) ≤ nI f; rw [li16, nI_leI (by omega) (by omega)]; omega)]
      have hnext : ∀ (N3 : Int32) (B3 M3 : Nat), B3 ≤ 40 → Sp (WN u) (fun a e => (e < d ∧ a + e ≤ 15) ∨ (e = d ∧ a < f + 1 ∧ a + e ≤ 15)) B3 M3 N3 → ∃ N B M, k2 (N3, nI B3, nI f + 1) = some N ∧ Sp (WN u) allS B M N := by
        intro N3 B3 M3 h1 h2
        refine hk2 _ ⟨f + 1, B3, M3, by omega, h1, rfl, nI_1 f, h2⟩ ?_
        show 16 - (nI f + 1).toNatClampNeg < 16 - (nI f).toNatClampNeg
        rw [nI_1, nI_clamp (by omega), nI_clamp (by omega)]; omega
      have stop : ∀ (K : (Int32 × Int32 × Int32) → Option Int32) (N3 : Int32) (B3 t : Nat), t < 100 → f + d < t → f_X6_bestNight_l41 y (N, nI B, nI d) k2 (N2, nI B2, nI f) K (N3, nI B3, nI t) = k2 (N3, nI B3, nI f + 1) := by
        intro K N3 B3 t ht h
        unfold f_X6_bestNight_l41
        rw [if_pos (by show nI f + nI d < nI t; rw [nI_add, nI_ltI (by omega) (by omega)]; exact h)]
      have far : ∀ (K : (Int32 × Int32 × Int32) → Option Int32) (N3 : Int32) (B3 t : Nat), 16 ≤ t → t ≤ f + d → d ≠ 0 → f_X6_bestNight_l41 y (N, nI B, nI d) k2 (N2, nI B2, nI f) K (N3, nI B3, nI t) = K (N3, nI B3, nI (t + 2 * d)) := by
        intro K N3 B3 t ht h h0
        unfold f_X6_bestNight_l41 f_X6_bestNight_j127
        rw [if_neg (by show ¬ nI f + nI d < nI t; rw [nI_add, nI_ltI (by omega) (by omega)]; omega)]
        have e : f_X6_in (nI t) 0 15 = some 0 := by
          unfold f_X6_in
          rw [if_neg (nI_pos (by omega)), if_pos (by rw [li15, nI_ltI (by omega) (by omega)]; omega)]
        simp only [e, Option.bind_some, ↓reduceIte, eq0 (show d < 2 ^ 31 by omega), if_neg h0, li2, pk_mul, nI_add]
      have near : ∀ (K : (Int32 × Int32 × Int32) → Option Int32) (N3 : Int32) (B3 t a c : Nat), B3 ≤ 40 → t < 16 → t ≤ f + d → a = (if t ≤ f then t else f) → c = (if t ≤ f then f else t) → f_X6_bestNight_l41 y (N, nI B, nI d) k2 (N2, nI B2, nI f) K (N3, nI B3, nI t) = K (if WN u a (c - a) ≤ B3 then N3 else nI (17 * f + t - f), if WN u a (c - a) ≤ B3 then nI B3 else nI (WN u a (c - a)), nI (t + (if d = 0 then 1 else 2 * d))) := by
        intro K N3 B3 t a c hB3 ht h ha hc
        have hwp : f_X6_wouldPaint y (nI a) (nI c) = some (nI (WN u a (c - a))) := wouldPaint_u hz hu (by rw [ha, hc]; split <;> omega) (by rw [hc]; split <;> omega)
        have hW := @WN_le u hu a (c - a)
        have h127 : ∀ X : Int32 × Int32, f_X6_bestNight_j127 (N, nI B, nI d) K (N3, nI B3, nI t) X = K (X.1, X.2, nI (t + (if d = 0 then 1 else 2 * d))) := by
          intro X
          unfold f_X6_bestNight_j127
          simp only [eq0 (show d < 2 ^ 31 by omega), li2, pk_mul, nI_add, nI_1]
          by_cases h0 : d = 0
          · rw [if_pos h0, if_pos h0]
          · rw [if_neg h0, if_neg h0]
        have h90 : f_X6_bestNight_j90 y (N, nI B, nI d) (N2, nI B2, nI f) K (N3, nI B3, nI t) (nI a) (nI c) = K (if WN u a (c - a) ≤ B3 then N3 else nI (17 * f + t - f), if WN u a (c - a) ≤ B3 then nI B3 else nI (WN u a (c - a)), nI (t + (if d = 0 then 1 else 2 * d))) := by
          unfold f_X6_bestNight_j90 f_X6_bestNight_j113 f_X6_bestNight_j126
          simp only [hwp, Option.bind_some, leN (show WN u a (c - a) < 2 ^ 31 by omega) (show B3 < 2 ^ 31 by omega), h127]
          by_cases h5 : WN u a (c - a) ≤ B3
          · simp only [if_pos h5]
          · simp only [if_neg h5]
            rw [li16, pk_mul, nI_add, show 16 * f + t = 17 * f + t - f by omega]
        unfold f_X6_bestNight_l41 f_X6_bestNight_j76
        rw [if_neg (by show ¬ nI f + nI d < nI t; rw [nI_add, nI_ltI (by omega) (by omega)]; omega)]
        rw [in_yes li0 li15 (by omega) (by omega) (by omega), Option.bind_some, if_neg (by decide)]
        simp only [leN (show t < 2 ^ 31 by omega) (show f < 2 ^ 31 by omega)]
        by_cases h6 : t ≤ f
        · rw [if_pos h6] at ha hc
          subst ha hc
          simp only [if_pos h6]
          exact h90
        · rw [if_neg h6] at ha hc
          subst ha hc
          simp only [if_neg h6]
          exact h90
      have hSS : ∀ a e, f + d ≤ 15 → (((e < d ∧ a + e ≤ 15) ∨ (e = d ∧ a < f + 1 ∧ a + e ≤ 15)) ↔ ((e < d ∧ a + e ≤ 15) ∨ (e = d ∧ a < f ∧ a + e ≤ 15)) ∨ (a = f ∧ e = d)) := by
        intro a e h
        omega
      have tail : ∀ m, ∃ N' B' M', lpN (f_X6_bestNight_l41 y (N, nI B, nI d) k2 (N2, nI B2, nI f)) (m + 2) (N2, nI B2, nI (f + d)) = some N' ∧ Sp (WN u) allS B' M' N' := by
        intro m
        rw [show m + 2 = m + 1 + 1 by omega, lpN_succ]
        by_cases hfd : f + d ≤ 15
        · rw [near _ N2 B2 (f + d) f (f + d) hB (by omega) (by omega) (by split <;> omega) (by split <;> omega), lpN_succ]
          rw [show f + d - f = d by omega, show 17 * f + (f + d) - f = 17 * f + d by omega]
          have hW := @WN_le u hu f d
          by_cases h5 : WN u f d ≤ B2
          · rw [if_pos h5, if_pos h5, stop _ _ _ _ (by split <;> omega) (by split <;> omega)]
            exact hnext _ _ _ hB (hS.skip (fun a e => hSS a e hfd) (by have := hS.M_le (d := d) (fun a e h => by omega); omega) (fun a ha => by omega))
          · rw [if_neg h5, if_neg h5, stop _ _ _ _ (by split <;> omega) (by split <;> omega)]
            exact hnext _ _ _ hW (hS.take (fun a e => hSS a e hfd) (Or.inl (by omega)))
        · rw [far _ N2 B2 (f + d) (by omega) (by omega) (by omega), lpN_succ, stop _ _ _ _ (by omega) (by omega)]
          exact hnext _ _ _ hB (hS.same (fun a e => by show _ ↔ _; omega))
      by_cases hd0 : d = 0
      · subst hd0
        rw [pk_sub (show 0 ≤ f by omega), Nat.sub_zero]
        exact tail 2998
      · have first : ∀ K, f_X6_bestNight_l41 y (N, nI B, nI d) k2 (N2, nI B2, nI f) K (N2, nI B2, nI f - nI d) = K (N2, nI B2, nI (f + d)) := by
          intro K
          by_cases hfd : f < d
          · have hneg := pk_sneg (show d < 2 ^ 30 by omega) hfd
            unfold f_X6_bestNight_l41 f_X6_bestNight_j127
            rw [if_neg (by
              show ¬ nI f + nI d < nI f - nI d
              intro z
              exact nI_pos (show f + d < 2 ^ 31 by omega) (by rw [nI_add] at z; exact Int32.lt_trans z hneg))]
            have e : f_X6_in (nI f - nI d) 0 15 = some 0 := by
              unfold f_X6_in
              rw [if_pos hneg]
            simp only [e, Option.bind_some, ↓reduceIte, eq0 (show d < 2 ^ 31 by omega), if_neg hd0, li2, pk_mul]
            rw [show 2 * d = d + d by omega, ← nI_add, ← Int32.add_assoc, Int32.sub_add_cancel, nI_add]
          · rw [pk_sub (by omega), near K N2 B2 (f - d) (f - d) f hB (by omega) (by omega) (by rw [if_pos (by omega)]) (by rw [if_pos (by omega)])]
            have hle := hS.le (a := f - d) (d := d) (Or.inr ⟨rfl, by omega, by omega⟩)
            rw [show f - (f - d) = d by omega, if_pos hle, if_pos hle, if_neg hd0, show f - d + 2 * d = f + d by omega]
        rw [lp3000, first]
        exact tail 2997
theorem m_bestNight {x : TX5s} (h : RZ x.1 y.1) : ∃ v, f_X5_bestNight x = some v ∧ f_X6_bestNight y = some v := by
  obtain ⟨u, hr, hz, hu, _⟩ := h
  have h99 := hu.2.2.2.2.2.2
  unfold f_X5_bestNight f_X6_bestNight
  simp only [gcl li5 (show 5 < 268 by omega) (by omega), clk li5 (show 5 < 2 ^ 31 by omega), ↓reduceIte, hz.at (show 5 < 268 by omega) (Or.inl (by omega)), hr.2.2.2.2.2, eq0 (show u 5 < 2 ^ 31 by omega)]
  by_cases h0 : u 5 = 0
  · rw [if_pos h0, if_pos h0]
    exact ⟨_, rfl, rfl⟩
  · rw [if_neg h0, if_neg h0]
    obtain ⟨N, B, M, e1, e2⟩ := search5 hr hu
    obtain ⟨N', B', M', e3, e4⟩ := search6 hz hu
    rw [e1, e3, e2.uniq e4]
    exact ⟨_, rfl, rfl⟩
end LE
