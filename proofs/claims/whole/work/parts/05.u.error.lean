/-! the first error of a text: what it is, and the class's search -/
def stp (n : Nat) (L : Nat → Int32) (kd : Nat) (st : Nat × Bool) : Nat × Bool := if st.2 = true ∧ st.1 < n ∧ chk kd (L st.1) = true then (st.1 + 1, true) else (st.1, false)
def rsF (n : Nat) (L : Nat → Int32) (q : Nat) : Nat → Nat → Nat × Bool → Nat × Bool
  | 0, _, st => st
  | m + 1, k, st => rsF n L q m (k + 1) (stp n L (kdOf q k) st)
/-- an order from a place on -/
def oe (n : Nat) (L : Nat → Int32) (s : Nat) : Nat × Bool := if s < n ∧ fOf (L s) ≠ 6 then rsF n L (fOf (L s)) (fLen (fOf (L s)) - 1) 1 (s + 1, true) else (s, false)
def fin (n : Nat) (L : Nat → Int32) (F : Nat → Int32) (st : Nat × Bool) : Int32 := if st.2 = true then (if n ≤ st.1 then -6 else if L st.1 = 59 then F (st.1 + 1) else nI st.1) else nI st.1
def fe (n : Nat) (L : Nat → Int32) : Nat → Nat → Int32
  | 0, _ => 0
  | f + 1, s => fin n L (fe n L f) (oe n L s)
theorem stp_bad {n : Nat} {L : Nat → Int32} {kd p : Nat} : stp n L kd (p, false) = (p, false) := by
  unfold stp
  rw [if_neg (fun z => absurd z.1 (by simp))]
theorem rsF_bad {n : Nat} {L : Nat → Int32} {q m k p : Nat} : rsF n L q m k (p, false) = (p, false) := by
  induction m generalizing k with
  | zero => rfl
  | succ m ih => rw [rsF, stp_bad, ih]
theorem len_q {q : Nat} (h : q < 6) : f_str_length q = some (nI (fLen q)) := by
  unfold f_str_length fLen
  rw [if_pos (by omega)]
theorem fLen_le {q : Nat} (h : q < 6) : 1 ≤ fLen q ∧ fLen q ≤ 4 := by
  have h : q = 0 ∨ q = 1 ∨ q = 2 ∨ q = 3 ∨ q = 4 ∨ q = 5 := by omega
  rcases h with rfl | rfl | rfl | rfl | rfl | rfl <;> decide
theorem fOf_le {c : Int32} (h : fOf c ≠ 6) : 1 ≤ fOf c ∧ fOf c ≤ 5 := by
  rcases fOf_cases c with h1 | h1 | h1 | h1 | h1 | h1 <;> omega
section FE
variable {o : TX2s} {n : Nat}
theorem codeAt_u (hn : n ≤ 70) (h2 : o.2 = nI n) {p : Nat} (hp : p < n) : f_X2_codeAt o (nI p) = some (o.1 p) := by
  unfold f_X2_codeAt
  rw [isW, h2, li1, pk_sub (by omega), in_yes li0 rfl (by omega) (show p ≤ n - 1 by omega) (by omega), Option.bind_some, if_neg (by decide)]
  simp only [nI_clamp (show p < 2 ^ 31 by omega), g_in2 (show p < 70 by omega) (by omega), ↓reduceIte]
theorem firstError_u (hn : n ≤ 70) (h2 : o.2 = nI n) (hL : ∀ i, i < n → ∃ v : Nat, 33 ≤ v ∧ v ≤ 126 ∧ o.1 i = nI v) : f_X2_firstError o = some (fe n o.1 71 0) := by
  unfold f_X2_firstError
  have main := lpN_rule (f_X2_firstError_l7 o) (fun a r => ∀ q k p, a = (q, nI k, nI p) → p ≤ n → q < 6 → k ≤ fLen q → (k = 0 → ∀ f, n + 1 - p ≤ f → r = some (fe n o.1 f p)) ∧ (1 ≤ k → 1 ≤ q → ∀ f, n + 1 - p ≤ f → r = some (fin n o.1 (fe n o.1 f) (rsF n o.1 q (fLen q - k) k (p, true))))) (fun a => ∃ q k p, a = (q, nI k, nI p) ∧ p ≤ n ∧ q < 6 ∧ k ≤ fLen q ∧ (1 ≤ k → 1 ≤ q)) (fun a => 71 - a.2.2.toNatClampNeg) ?_ 3000 (0, 0, 0) ⟨0, 0, 0, rfl, by omega, by omega, by omega, by omega⟩ (by omega)
  · exact (main 0 0 0 rfl (by omega) (by omega) (by omega)).1 rfl 71 (by omega)
  · rintro K a ⟨q, k, p, rfl, hp, hq, hk, hkq⟩ hK q' k' p' he hp' hq' hk'
    have hl4 := fLen_le hq
    have hl4' := fLen_le hq'
    have eq : q' = q ∧ nI k' = nI k ∧ nI p' = nI p := by
      simp only [Prod.mk.injEq] at he
      exact ⟨he.1.symm, he.2.1.symm, he.2.2.symm⟩
    obtain ⟨rfl, ek, ep⟩ := eq
    rw [nI_eq (by omega) (by omega)] at ek ep
    subst ek ep
    have hm : 71 - (nI (p' + 1)).toNatClampNeg < 71 - (nI p').toNatClampNeg := by
      rw [nI_clamp (by omega), nI_clamp (by omega)]; omega
    unfold f_X2_firstError_l7
    simp only [h2, leN (show n < 2 ^ 31 by omega) (show p' < 2 ^ 31 by omega), len_q hq, Option.bind_some, eqN (show k' < 2 ^ 31 by omega) (show fLen q' < 2 ^ 31 by omega)]
    by_cases hnp : n ≤ p'
    · simp only [if_pos hnp]
      constructor
      · intro h0 f hf
        rw [if_neg (by omega)]
        obtain ⟨f, rfl⟩ : ∃ f', f = f' + 1 := ⟨f - 1, by omega⟩
        rw [fe, oe, if_neg (by omega), fin, if_neg (by simp), show p' = n by omega]
      · intro h1 hq1 f hf
        by_cases hkl : k' = fLen q'
        · rw [if_pos hkl, hkl, Nat.sub_self, rsF, fin, if_pos rfl, if_pos hnp]
        · rw [if_neg hkl]
          obtain ⟨m, hm⟩ : ∃ m, fLen q' - k' = m + 1 := ⟨fLen q' - k' - 1, by omega⟩
          rw [hm, rsF, stp, if_neg (by omega), rsF_bad, fin, if_neg (by simp), show p' = n by omega]
    · simp only [if_neg hnp, codeAt_u hn h2 (show p' < n by omega), Option.bind_some]
      obtain ⟨v, hv1, hv2, hv⟩ := hL p' (by omega)
      constructor
      · intro h0 f hf
        subst h0
        rw [if_neg (by omega), if_pos (by decide)]
        obtain ⟨f, rfl⟩ : ∃ f', f = f' + 1 := ⟨f - 1, by omega⟩
        rw [formOf_u, Option.bind_some, fe]
        unfold oe
        by_cases h6 : fOf (o.1 p') = 6
        · rw [if_neg (fun z => z.2 h6), h6]
          rw [show f_str_isEmpty 6 = some 1 from rfl, Option.bind_some, if_neg (by decide), fin, if_neg (by simp)]
        · have h16 := fOf_le h6
          have hl := fLen_le (show fOf (o.1 p') < 6 by omega)
          rw [if_pos ⟨by omega, h6⟩]
          have he0 : f_str_isEmpty (fOf (o.1 p')) = some 0 := by
            unfold f_str_isEmpty
            rw [if_pos (by omega), if_neg (by unfold fLen at hl; omega)]
          rw [he0, Option.bind_some, if_pos rfl, nI_1]
          exact (hK _ ⟨fOf (o.1 p'), 1, p' + 1, rfl, by omega, by omega, by omega, fun _ => by omega⟩ hm (fOf (o.1 p')) 1 (p' + 1) rfl (by omega) (by omega) (by omega)).2 (by omega) (by omega) f (by omega)
      · intro h1 hq1 f hf
        by_cases hkl : k' = fLen q'
        · rw [if_pos hkl, hkl, Nat.sub_self, rsF, fin, if_pos rfl, if_neg hnp]
          by_cases h59 : o.1 p' = 59
          · rw [if_pos h59, if_pos h59, nI_1]
            exact (hK _ ⟨q', 0, p' + 1, rfl, by omega, by omega, by omega, by omega⟩ hm q' 0 (p' + 1) rfl (by omega) (by omega) (by omega)).1 rfl f (by omega)
          · rw [if_neg h59, if_neg h59]
        · rw [if_neg hkl, if_neg (by rw [eq0 (by omega)]; omega), hv, valueAt_u hq1 (by omega) h1 (by omega) hv2, Option.bind_some]
          obtain ⟨m, hm2⟩ : ∃ m, fLen q' - k' = m + 1 := ⟨fLen q' - k' - 1, by omega⟩
          rw [hm2, rsF, stp]
          by_cases hc : chk (kdOf q' k') (nI v) = true
          · rw [if_pos hc, if_pos (vl_pos hc), if_pos ⟨rfl, by omega, by rw [hv]; exact hc⟩, nI_1, nI_1]
            have := (hK _ ⟨q', k' + 1, p' + 1, rfl, by omega, by omega, by omega, by omega⟩ hm q' (k' + 1) (p' + 1) rfl (by omega) (by omega) (by omega)).2 (by omega) hq1 f (by omega)
            rw [show fLen q' - (k' + 1) = m by omega] at this
            exact this
          · rw [if_neg hc, if_neg (by decide), if_neg (fun z => hc (by have := z.2.2; rw [hv] at this; exact this)), rsF_bad, fin, if_neg (by simp)]
end FE
