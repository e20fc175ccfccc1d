/-! the best night, in the law -/
section BL
variable {u : Nat → Nat} {a p w q d e t : Nat → Int32}
theorem weakN {x : Nat → Nat} {pp : Nat} (h0 : x pp = 0 ↔ x (pp + 1) = 0) (h1 : x (pp + 1) ≤ 100) : f_L_weak (nI (x (pp + 1))) = some (nI (wkN x pp)) := by
  rw [weak_u h1]
  unfold wkN
  by_cases e0 : x pp = 0
  · rw [if_pos e0, if_pos (h0.mp e0)]; rfl
  · rw [if_neg e0, if_neg (fun z => e0 (h0.mpr z))]
    split <;> rfl
theorem wk01 {β : Type} (X : Int32 → β) {x : Nat → Nat} {pp : Nat} : (if nI (wkN x pp) = 0 then X 0 else X 1) = X (nI (wkN x pp)) := by
  rcases @wkN_01 x pp with e | e
  · rw [e]; rfl
  · rw [e]; rfl
theorem cm8 {b : Nat} : cm u b = 0 + wkN u (14 + 4 * (16 * 0 + b)) + wkN u (14 + 4 * (16 * 1 + b)) + wkN u (14 + 4 * (16 * 2 + b)) + wkN u (12 + 4 * (16 * 0 + b)) + wkN u (12 + 4 * (16 * 1 + b)) + wkN u (12 + 4 * (16 * 2 + b)) + wkN u (204 + 2 * (16 * 0 + b)) + wkN u (204 + 2 * (16 * 1 + b)) := rfl
/-- the weak signs of a mile -/
theorem bestM (h : AR u a p w q d e t) (hu : UOk u) {b n hi : Nat} (hb : b < 16) (hbh : b ≤ hi) (hh : hi < 16) (k10 : (Int32 × Int32 × Int32) → Option Int32) (v10 : Int32 × Int32 × Int32) (w52 : Int32) (k77 : (Int32 × Int32) → Option Int32) : f_L_best_l77 p q e t k10 v10 w52 (nI hi) k77 (nI n, nI b) = k77 (nI (n + cm u b), nI (b + 1)) := by
  have A : ∀ k, k < 3 → p (16 * k + b) = nI (u (12 + 4 * (16 * k + b) + 1)) ∧ q (16 * k + b) = nI (u (14 + 4 * (16 * k + b) + 1)) := by
    intro k hk
    obtain ⟨-, e2, -, e4⟩ := h.1 (16 * k + b) (by omega)
    rw [e2, e4, show 12 + 4 * (16 * k + b) + 1 = 13 + 4 * (16 * k + b) by omega, show 14 + 4 * (16 * k + b) + 1 = 15 + 4 * (16 * k + b) by omega]
    exact ⟨rfl, rfl⟩
  have D : ∀ k, k < 2 → e (16 * k + b) = nI (u (204 + 2 * (16 * k + b) + 1)) := by
    intro k hk
    obtain ⟨-, e2⟩ := h.2.1 (16 * k + b) (by omega)
    rw [e2, show 204 + 2 * (16 * k + b) + 1 = 205 + 2 * (16 * k + b) by omega]
  have wA : ∀ k, k < 3 → f_L_weak (p (16 * k + b)) = some (nI (wkN u (12 + 4 * (16 * k + b)))) := fun k hk => by
    have g := hu.1 (16 * k + b) (by omega)
    rw [(A k hk).1, weakN g.2.1 g.1]
  have wW : ∀ k, k < 3 → f_L_weak (q (16 * k + b)) = some (nI (wkN u (14 + 4 * (16 * k + b)))) := fun k hk => by
    have g := hu.2.1 (16 * k + b) (by omega)
    rw [(A k hk).2, weakN g.2.1 g.1]
  have wD : ∀ k, k < 2 → f_L_weak (e (16 * k + b)) = some (nI (wkN u (204 + 2 * (16 * k + b)))) := fun k hk => by
    have g := hu.2.2.1 (16 * k + b) (by omega)
    rw [D k hk, weakN g.2.1 g.1]
  have a0 := wA 0 (by omega)
  have a1 := wA 1 (by omega)
  have a2 := wA 2 (by omega)
  have b0 := wW 0 (by omega)
  have b1 := wW 1 (by omega)
  have b2 := wW 2 (by omega)
  have d0 := wD 0 (by omega)
  have d1 := wD 1 (by omega)
  have i0 : 16 * 0 + b = b := by omega
  have i1 : 16 * 1 + b = 16 + b := by omega
  have i2 : 16 * 2 + b = 32 + b := by omega
  rw [cm8]
  rw [i0] at a0 b0 d0 ⊢
  rw [i1] at a1 b1 d1 ⊢
  rw [i2] at a2 b2 ⊢
  have s1 : f_L_best_l77 p q e t k10 v10 w52 (nI hi) k77 (nI n, nI b) = f_L_best_j101 p q e k77 (nI n, nI b) (nI (wkN u (12 + 4 * b))) := by
    unfold f_L_best_l77
    simp only [ltN (show hi < 2 ^ 31 by omega) (show b < 2 ^ 31 by omega), show ¬ hi < b by omega, nI_clamp (show b < 2 ^ 31 by omega), g_in2 (show b < 48 by omega) (show 48 < 2 ^ 31 by omega), ↓reduceIte, a0, Option.bind_some]
    exact wk01 (fun z => f_L_best_j101 p q e k77 (nI n, nI b) z)
  have s2 : ∀ z, f_L_best_j101 p q e k77 (nI n, nI b) z = f_L_best_j119 p q e k77 (nI n, nI b) z (nI (wkN u (12 + 4 * (16 + b)))) := by
    intro z
    unfold f_L_best_j101
    simp only [li16, nI_add, nI_clamp (show 16 + b < 2 ^ 31 by omega), g_in2 (show 16 + b < 48 by omega) (show 48 < 2 ^ 31 by omega), ↓reduceIte, a1, Option.bind_some]
    exact wk01 (fun y => f_L_best_j119 p q e k77 (nI n, nI b) z y)
  have s3 : ∀ z z2, f_L_best_j119 p q e k77 (nI n, nI b) z z2 = f_L_best_j138 q e k77 (nI n, nI b) z z2 (nI (wkN u (12 + 4 * (32 + b)))) := by
    intro z z2
    unfold f_L_best_j119
    simp only [li32, nI_add, nI_clamp (show 32 + b < 2 ^ 31 by omega), g_in2 (show 32 + b < 48 by omega) (show 48 < 2 ^ 31 by omega), ↓reduceIte, a2, Option.bind_some]
    exact wk01 (fun y => f_L_best_j138 q e k77 (nI n, nI b) z z2 y)
  have s4 : ∀ z z2 z3, f_L_best_j138 q e k77 (nI n, nI b) z z2 z3 = f_L_best_j154 q e k77 (nI n, nI b) z z2 z3 (nI (wkN u (14 + 4 * b))) := by
    intro z z2 z3
    unfold f_L_best_j138
    simp only [nI_clamp (show b < 2 ^ 31 by omega), g_in2 (show b < 48 by omega) (show 48 < 2 ^ 31 by omega), ↓reduceIte, b0, Option.bind_some]
    exact wk01 (fun y => f_L_best_j154 q e k77 (nI n, nI b) z z2 z3 y)
  have s5 : ∀ z z2 z3 z4, f_L_best_j154 q e k77 (nI n, nI b) z z2 z3 z4 = f_L_best_j173 q e k77 (nI n, nI b) z z2 z3 z4 (nI (wkN u (14 + 4 * (16 + b)))) := by
    intro z z2 z3 z4
    unfold f_L_best_j154
    simp only [li16, nI_add, nI_clamp (show 16 + b < 2 ^ 31 by omega), g_in2 (show 16 + b < 48 by omega) (show 48 < 2 ^ 31 by omega), ↓reduceIte, b1, Option.bind_some]
    exact wk01 (fun y => f_L_best_j173 q e k77 (nI n, nI b) z z2 z3 z4 y)
  have s6 : ∀ z z2 z3 z4 z5, f_L_best_j173 q e k77 (nI n, nI b) z z2 z3 z4 z5 = f_L_best_j192 e k77 (nI n, nI b) z z2 z3 z4 z5 (nI (wkN u (14 + 4 * (32 + b)))) := by
    intro z z2 z3 z4 z5
    unfold f_L_best_j173
    simp only [li32, nI_add, nI_clamp (show 32 + b < 2 ^ 31 by omega), g_in2 (show 32 + b < 48 by omega) (show 48 < 2 ^ 31 by omega), ↓reduceIte, b2, Option.bind_some]
    exact wk01 (fun y => f_L_best_j192 e k77 (nI n, nI b) z z2 z3 z4 z5 y)
  have s7 : ∀ z z2 z3 z4 z5 z6, f_L_best_j192 e k77 (nI n, nI b) z z2 z3 z4 z5 z6 = f_L_best_j208 e k77 (nI n, nI b) z z2 z3 z4 z5 z6 (nI (wkN u (204 + 2 * b))) := by
    intro z z2 z3 z4 z5 z6
    unfold f_L_best_j192
    simp only [nI_clamp (show b < 2 ^ 31 by omega), g_in2 (show b < 32 by omega) (show 32 < 2 ^ 31 by omega), ↓reduceIte, d0, Option.bind_some]
    exact wk01 (fun y => f_L_best_j208 e k77 (nI n, nI b) z z2 z3 z4 z5 z6 y)
  have s8 : ∀ z z2 z3 z4 z5 z6 z7, f_L_best_j208 e k77 (nI n, nI b) z z2 z3 z4 z5 z6 z7 = k77 (nI n + (((((((z + z2) + z3) + z4) + z5) + z6) + z7) + nI (wkN u (204 + 2 * (16 + b)))), nI (b + 1)) := by
    intro z z2 z3 z4 z5 z6 z7
    unfold f_L_best_j208
    simp only [li16, nI_add, nI_clamp (show 16 + b < 2 ^ 31 by omega), g_in2 (show 16 + b < 32 by omega) (show 32 < 2 ^ 31 by omega), ↓reduceIte, d1, Option.bind_some, nI_1]
    exact wk01 (fun y => k77 (nI n + (((((((z + z2) + z3) + z4) + z5) + z6) + z7) + y), nI (b + 1)))
  rw [s1, s2, s3, s4, s5, s6, s7, s8]
  simp only [nI_add]
  refine congrArg (fun z => k77 (nI z, nI (b + 1))) ?_
  omega
/-- the better of two -/
theorem bestJ {B hd lo hi W k : Nat} {N : Int32} (hB : B ≤ 40) (hW : W ≤ 40) (hlh : lo ≤ hi) (hh : hi < 16) (hhd : hd < 100) (hN : (N = -6 ∧ hd = 99) ∨ ∃ x, x < 16 ∧ x + hd < 16 ∧ N = nI (17 * x + hd)) (hk : k < 256) (k10 : (Int32 × Int32 × Int32) → Option Int32) : f_L_best_j271 k10 (nI B, N, nI k) (nI lo) (nI hi) (nI W) = if B < W ∨ (W = B ∧ 0 < W ∧ hi - lo < hd) then k10 (nI W, nI k, nI (k + 1)) else k10 (nI B, N, nI (k + 1)) := by
  have j321 : f_L_best_j321 k10 (nI B, N, nI k) (nI lo) (nI hi) (nI W) (nI hd) = if B < W ∨ (W = B ∧ 0 < W ∧ hi - lo < hd) then k10 (nI W, nI k, nI (k + 1)) else k10 (nI B, N, nI (k + 1)) := by
    unfold f_L_best_j321
    simp only [ltN (show B < 2 ^ 31 by omega) (show W < 2 ^ 31 by omega), eqN (show W < 2 ^ 31 by omega) (show B < 2 ^ 31 by omega), le0 (show W < 2 ^ 31 by omega), pk_sub hlh, leN (show hd < 2 ^ 31 by omega) (show hi - lo < 2 ^ 31 by omega), nI_1]
    by_cases h1 : B < W
    · rw [if_pos h1, if_pos (Or.inl h1)]
    · rw [if_neg h1]
      by_cases h2 : W = B
      · rw [if_pos h2]
        by_cases h3 : W = 0
        · rw [if_pos h3, if_neg (by omega)]
        · rw [if_neg h3]
          by_cases h4 : hd ≤ hi - lo
          · rw [if_pos h4, if_neg (by omega)]
          · rw [if_neg h4, if_pos (by omega)]
      · rw [if_neg h2, if_neg (by omega)]
  unfold f_L_best_j271
  rcases hN with ⟨rfl, rfl⟩ | ⟨x, hx, hx2, rfl⟩
  · rw [if_neg (show ¬ (0 : Int32) ≤ -6 by decide)]
    exact j321
  · have h9 : (0 : Int32) ≤ nI (17 * x + hd) := nI_pos' (by omega)
    have h8 : nI (17 * x + hd) - nI x * nI 16 = nI (x + hd) := by rw [pk_mul, pk_sub (by omega), show 17 * x + hd - x * 16 = x + hd by omega]
    simp only [h9, ↓reduceIte, li16, h8, pk_div (show 17 * x + hd < 2 ^ 31 by omega) (show 0 < 16 by omega) (show 16 < 2 ^ 31 by omega), show (17 * x + hd) % 16 = x + hd by omega, show (17 * x + hd) / 16 = x by omega, leN (show x + hd < 2 ^ 31 by omega) (show x < 2 ^ 31 by omega)]
    by_cases h0 : x + hd ≤ x
    · rw [if_pos h0, pk_sub (by omega), show x - (x + hd) = hd by omega]
      exact j321
    · rw [if_neg h0, pk_sub (by omega), show x + hd - x = hd by omega]
      exact j321
/-- a night of the search -/
theorem bestK (h : AR u a p w q d e t) (hu : UOk u) (h5 : u 5 ≠ 0) {B hd k : Nat} {N : Int32} (hB : B ≤ 40) (hhd : hd < 100) (hN : (N = -6 ∧ hd = 99) ∨ ∃ x, x < 16 ∧ x + hd < 16 ∧ N = nI (17 * x + hd)) (hk : k < 256) {lo hi : Nat} (hlo : lo = if k % 16 ≤ k / 16 then k % 16 else k / 16) (hhi : hi = if k % 16 ≤ k / 16 then k / 16 else k % 16) (k10 : (Int32 × Int32 × Int32) → Option Int32) : f_L_best_l10 p q e t k10 (nI B, N, nI k) = if B < WN u lo (hi - lo) ∨ (WN u lo (hi - lo) = B ∧ 0 < WN u lo (hi - lo) ∧ hi - lo < hd) then k10 (nI (WN u lo (hi - lo)), nI k, nI (k + 1)) else k10 (nI B, N, nI (k + 1)) := by
  have t5 := h.2.2 5 (by omega)
  have t1 := h.2.2 1 (by omega)
  have c5 := hu.c5
  have s1 := hu.s1
  have hlh : lo ≤ hi := by rw [hlo, hhi]; split <;> omega
  have hh : hi < 16 := by rw [hhi]; split <;> omega
  have hW := @WN_le u hu lo (hi - lo)
  have j68 : f_L_best_j68 p q e t k10 (nI B, N, nI k) (nI lo) (nI hi) = f_L_best_j271 k10 (nI B, N, nI k) (nI lo) (nI hi) (nI (WN u lo (hi - lo))) := by
    unfold f_L_best_j68
    obtain ⟨⟨v1, v2⟩, m, ⟨e1, e2⟩, e3⟩ := lp_for1 (f_L_best_l77 p q e t k10 (nI B, N, nI k) (nI lo) (nI hi)) (fun j v => v.1 = nI (smN u lo j) ∧ v.2 = nI (lo + j)) (hi - lo + 1) (by
      rintro j hj ⟨v1, v2⟩ ⟨e1, e2⟩
      simp only at e1 e2
      subst e1 e2
      refine ⟨(nI (smN u lo (j + 1)), nI (lo + (j + 1))), ⟨rfl, rfl⟩, fun k77 => ?_⟩
      rw [bestM h hu (show lo + j < 16 by omega) (by omega) hh]
      rfl) (a := (0, nI lo)) ⟨rfl, rfl⟩ (by omega)
    simp only at e1 e2
    subst e1 e2
    rw [e3]
    have hs := @smN_le u lo (hi - lo + 1)
    unfold f_L_best_l77 f_L_best_j253
    rw [if_pos (show nI hi < nI (lo + (hi - lo + 1)) by rw [nI_ltI (by omega) (by omega)]; omega)]
    simp only [tc0, tg0, tc1, tg1, tc2, tg2, tc3, tg3, tc4, tg4, tc5, tg5, tc6, tg6, tc7, tg7, tc8, tg8, tc9, tg9, ↓reduceIte, t1, t5, leN (show u 1 < 2 ^ 31 by omega) (show smN u lo (hi - lo + 1) < 2 ^ 31 by omega), leN (show u 5 < 2 ^ 31 by omega) (show u 1 < 2 ^ 31 by omega), leN (show u 5 < 2 ^ 31 by omega) (show smN u lo (hi - lo + 1) < 2 ^ 31 by omega)]
    have hWd : WN u lo (hi - lo) = if (if u 1 < u 5 then u 1 else u 5) < smN u lo (hi - lo + 1) then (if u 1 < u 5 then u 1 else u 5) else smN u lo (hi - lo + 1) := rfl
    by_cases g1 : u 1 ≤ smN u lo (hi - lo + 1)
    · rw [if_pos g1]
      by_cases g2 : u 5 ≤ u 1
      · rw [if_pos g2, show u 5 = WN u lo (hi - lo) by rw [hWd, if_neg (show ¬ u 1 < u 5 by omega)]; split <;> omega]
      · rw [if_neg g2, show u 1 = WN u lo (hi - lo) by rw [hWd, if_pos (show u 1 < u 5 by omega)]; split <;> omega]
    · rw [if_neg g1]
      by_cases g2 : u 5 ≤ smN u lo (hi - lo + 1)
      · rw [if_pos g2, show u 5 = WN u lo (hi - lo) by rw [hWd, if_neg (show ¬ u 1 < u 5 by omega)]; split <;> omega]
      · rw [if_neg g2, show smN u lo (hi - lo + 1) = WN u lo (hi - lo) by rw [hWd]; split <;> split <;> omega]
  unfold f_L_best_l10 f_L_best_j52
  simp only [li256, leN (show 256 < 2 ^ 31 by omega) (show k < 2 ^ 31 by omega), show ¬ 256 ≤ k by omega, tc0, tg0, tc1, tg1, tc2, tg2, tc3, tg3, tc4, tg4, tc5, tg5, tc6, tg6, tc7, tg7, tc8, tg8, tc9, tg9, ↓reduceIte, t5, le0 (show u 5 < 2 ^ 31 by omega), h5, li16, rem_q (show k < 2 ^ 31 by omega) (show 0 < 16 by omega) (show 16 < 2 ^ 31 by omega), pk_div (show k < 2 ^ 31 by omega) (show 0 < 16 by omega) (show 16 < 2 ^ 31 by omega), leN (show k % 16 < 2 ^ 31 by omega) (show k / 16 < 2 ^ 31 by omega)]
  rw [← bestJ hB hW hlh hh hhd hN hk k10, ← j68]
  by_cases g : k % 16 ≤ k / 16
  · simp only [if_pos g] at hlo hhi ⊢
    rw [hlo, hhi]
  · simp only [if_neg g] at hlo hhi ⊢
    rw [hlo, hhi]
def Sk (k : Nat) (x y : Nat) : Prop := x + y ≤ 15 ∧ 17 * x + y < k
theorem best_u {x : TX5s} (hr : RdU u x.1) (h : AR u a p w q d e t) (hu : UOk u) : ∃ v, f_X5_bestNight x = some v ∧ f_L_best p q e t = some v := by
  have c5 := hu.c5
  have t5 := h.2.2 5 (by omega)
  obtain ⟨N0, B0, M0, g1, g2⟩ := search5 hr hu
  unfold f_X5_bestNight
  rw [hr.2.2.2.2.2]
  by_cases h5 : u 5 = 0
  · refine ⟨-3, by rw [if_pos (by rw [h5]; rfl)], ?_⟩
    unfold f_L_best
    rw [lp3000]
    unfold f_L_best_l10 f_L_best_j366
    simp only [tc0, tg0, tc1, tg1, tc2, tg2, tc3, tg3, tc4, tg4, tc5, tg5, tc6, tg6, tc7, tg7, tc8, tg8, tc9, tg9, ↓reduceIte, t5, h5, show ¬ (256 : Int32) ≤ 0 by decide, show nI 0 ≤ 0 by decide, show nI 0 = 0 by rfl, Int32.le_refl]
  · refine ⟨N0, ?_, ?_⟩
    · rw [if_neg (by rw [eq0 (by omega)]; exact h5), g1]
      rfl
    · unfold f_L_best
      refine lpN_rule (f_L_best_l10 p q e t) (fun _ res => res = some N0) (fun v => ∃ k B M, k ≤ 256 ∧ B ≤ 40 ∧ v.1 = nI B ∧ v.2.2 = nI k ∧ Sp (WN u) (Sk k) B M v.2.1) (fun v => 256 - v.2.2.toNatClampNeg) ?_ 3000 (0, -6, 0) ⟨0, 0, 0, by omega, by omega, rfl, rfl, Or.inl ⟨rfl, rfl, rfl, fun x y z => absurd z.2 (Nat.not_lt_zero _)⟩⟩ (by show 256 - (0 : Int32).toNatClampNeg < 3000; omega)
      rintro k10 ⟨v1, N, v3⟩ ⟨k, B, M, hk, hB, e1, e2, hS⟩ hnext
      simp only at e1 e2 hS
      subst e1 e2
      by_cases h256 : k = 256
      · subst h256
        unfold f_L_best_l10 f_L_best_j366
        rw [if_pos (show (256 : Int32) ≤ nI 256 by decide)]
        simp only [tc0, tg0, tc1, tg1, tc2, tg2, tc3, tg3, tc4, tg4, tc5, tg5, tc6, tg6, tc7, tg7, tc8, tg8, tc9, tg9, ↓reduceIte, t5, eq0 (show u 5 < 2 ^ 31 by omega), h5]
        have hS2 : Sp (WN u) allS B M N := hS.same (fun x y => by unfold allS Sk; omega)
        rw [hS2.uniq g2]
      · have hkk : k < 256 := Nat.lt_of_le_of_ne hk h256
        have hmu : 256 - (nI (k + 1)).toNatClampNeg < 256 - (nI k).toNatClampNeg := by
          rw [nI_clamp (by omega), nI_clamp (by omega)]; omega
        -- what the best so far looks like
        have hN : ∃ hd, hd < 100 ∧ ((N = -6 ∧ hd = 99) ∨ ∃ x, x < 16 ∧ x + hd < 16 ∧ N = nI (17 * x + hd)) ∧ ((B = 0 ∧ M = 0) ∨ M = hd + 1) ∧ ∀ x y, Sk k x y → WN u x y < B ∨ (WN u x y = B ∧ (WN u x y = 0 ∨ hd ≤ y)) := by
          rcases hS with ⟨z1, z2, z3, z4⟩ | ⟨x, y, z1, z2, z3, z4, z5, z6⟩
          · exact ⟨99, by omega, Or.inl ⟨z3, rfl⟩, Or.inl ⟨z1, z2⟩, fun x y hs => Or.inr ⟨by rw [z4 x y hs, z1], Or.inl (z4 x y hs)⟩⟩
          · refine ⟨y, by have := z1.1; omega, Or.inr ⟨x, by have := z1.1; omega, by have := z1.1; omega, z5⟩, Or.inr z4, fun x' y' hs => ?_⟩
            rcases z6 x' y' hs with z | ⟨z, z7⟩
            · exact Or.inl z
            · exact Or.inr ⟨z, Or.inr (by omega)⟩
        obtain ⟨hd, hhd, hN1, hN2, hN3⟩ := hN
        rw [bestK h hu h5 hB hhd hN1 hkk rfl rfl k10]
        by_cases hft : k / 16 ≤ k % 16
        · -- a night towards higher miles
          have hlo : (if k % 16 ≤ k / 16 then k % 16 else k / 16) = k / 16 := by split <;> omega
          have hhi : (if k % 16 ≤ k / 16 then k / 16 else k % 16) = k % 16 := by split <;> omega
          rw [hlo, hhi]
          have hW := @WN_le u hu (k / 16) (k % 16 - k / 16)
          have hSS : ∀ x y, Sk (k + 1) x y ↔ Sk k x y ∨ (x = k / 16 ∧ y = k % 16 - k / 16) := by
            intro x y
            unfold Sk
            omega
          by_cases c : B < WN u (k / 16) (k % 16 - k / 16) ∨ (WN u (k / 16) (k % 16 - k / 16) = B ∧ 0 < WN u (k / 16) (k % 16 - k / 16) ∧ k % 16 - k / 16 < hd)
          · rw [if_pos c]
            have ht := hS.take hSS (by omega)
            rw [show 17 * (k / 16) + (k % 16 - k / 16) = k by omega] at ht
            exact hnext _ ⟨k + 1, _, _, by omega, hW, rfl, rfl, ht⟩ hmu
          · rw [if_neg c]
            exact hnext _ ⟨k + 1, B, M, by omega, hB, rfl, rfl, hS.skip hSS (by omega) (fun x hx => by unfold Sk at hx; omega)⟩ hmu
        · -- a night towards lower miles: it has been seen
          have hlo : (if k % 16 ≤ k / 16 then k % 16 else k / 16) = k % 16 := by split <;> omega
          have hhi : (if k % 16 ≤ k / 16 then k / 16 else k % 16) = k / 16 := by split <;> omega
          rw [hlo, hhi]
          have hs : Sk k (k % 16) (k / 16 - k % 16) := by unfold Sk; omega
          have hle := hN3 _ _ hs
          rw [if_neg (by omega)]
          exact hnext _ ⟨k + 1, B, M, by omega, hB, rfl, rfl, hS.same (fun x y => by unfold Sk; omega)⟩ hmu
end BL
