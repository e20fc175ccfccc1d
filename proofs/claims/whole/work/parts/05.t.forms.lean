/-! forms of orders: what each letter must be, its value -/
def chk (kd : Nat) (c : Int32) : Bool := if kd = 4 then decide (¬ c - 97 < 0 ∧ ¬ 15 < c - 97) else if kd = 5 then decide (c = 117 ∨ c = 100 ∨ c = 98) else decide (¬ c - 48 < 0 ∧ ¬ nI kd < c - 48)
def vl (kd : Nat) (c : Int32) : Int32 := if kd = 4 then c - 97 else if kd = 5 then (if c = 117 then 0 else if c = 100 then 1 else 2) else c - 48
def kdOf (q k : Nat) : Nat := (([[], [2, 4, 5], [2, 4, 3], [1, 4, 3], [4, 4], []] : List (List Nat)).getD q []).getD (k - 1) 0
def fLen (q : Nat) : Nat := gLen.getD q 0
def fOf (c : Int32) : Nat := if c = 97 then 1 else if c = 100 then 5 else if c = 108 then 3 else if c = 110 then 4 else if c = 119 then 2 else 6
theorem formOf_u (c : Int32) : f_X2_formOf c = some (fOf c) := by
  unfold f_X2_formOf fOf
  repeat' split
  all_goals rfl
theorem fOf_cases (c : Int32) : (fOf c = 6 ∧ c ≠ 97 ∧ c ≠ 100 ∧ c ≠ 108 ∧ c ≠ 110 ∧ c ≠ 119) ∨ (fOf c = 1 ∧ c = 97) ∨ (fOf c = 5 ∧ c = 100) ∨ (fOf c = 3 ∧ c = 108) ∨ (fOf c = 4 ∧ c = 110) ∨ (fOf c = 2 ∧ c = 119) := by
  unfold fOf
  by_cases h1 : c = 97
  · rw [if_pos h1]; exact Or.inr (Or.inl ⟨rfl, h1⟩)
  · rw [if_neg h1]
    by_cases h2 : c = 100
    · rw [if_pos h2]; exact Or.inr (Or.inr (Or.inl ⟨rfl, h2⟩))
    · rw [if_neg h2]
      by_cases h3 : c = 108
      · rw [if_pos h3]; exact Or.inr (Or.inr (Or.inr (Or.inl ⟨rfl, h3⟩)))
      · rw [if_neg h3]
        by_cases h4 : c = 110
        · rw [if_pos h4]; exact Or.inr (Or.inr (Or.inr (Or.inr (Or.inl ⟨rfl, h4⟩))))
        · rw [if_neg h4]
          by_cases h5 : c = 119
          · rw [if_pos h5]; exact Or.inr (Or.inr (Or.inr (Or.inr (Or.inr ⟨rfl, h5⟩))))
          · rw [if_neg h5]; exact Or.inl ⟨rfl, h1, h2, h3, h4, h5⟩
theorem in_chk {c b h : Int32} : f_X6_in (c - b) 0 h = some (if (¬ c - b < 0 ∧ ¬ h < c - b) then 1 else 0) := by
  unfold f_X6_in
  by_cases h1 : c - b < 0
  · rw [if_pos h1, if_neg (fun z => z.1 h1)]
  · rw [if_neg h1]
    by_cases h2 : h < c - b
    · rw [if_pos h2, if_neg (fun z => z.2 h2)]
    · rw [if_neg h2, if_pos ⟨h1, h2⟩]
theorem valueFrom_u {b N H c : Int32} (e : N - 1 = H) : f_X2_valueFrom b N c = some (if (¬ c - b < 0 ∧ ¬ H < c - b) then c - b else -1) := by
  unfold f_X2_valueFrom
  rw [isW, e, in_chk, Option.bind_some]
  by_cases h : ¬ c - b < 0 ∧ ¬ H < c - b
  · rw [if_pos h, if_pos h]; rfl
  · rw [if_neg h, if_neg h]; rfl
theorem chkF {kd : Nat} (h4 : kd ≠ 4) (h5 : kd ≠ 5) {c : Int32} : (if chk kd c = true then vl kd c else -1) = if (¬ c - 48 < 0 ∧ ¬ nI kd < c - 48) then c - 48 else -1 := by
  unfold chk vl
  simp only [if_neg h4, if_neg h5, decide_eq_true_eq]
theorem chkM {c : Int32} : (if chk 4 c = true then vl 4 c else -1) = if (¬ c - 97 < 0 ∧ ¬ 15 < c - 97) then c - 97 else -1 := by
  unfold chk vl
  simp only [↓reduceIte, decide_eq_true_eq]
theorem chkY {v : Nat} (hv : v ≤ 126) : f_str_indexOf 7 (((nI v).toUInt32 % 65536).toInt32) = some (if chk 5 (nI v) = true then vl 5 (nI v) else -1) := by
  have h : ∀ v, v < 127 → f_str_indexOf 7 (((nI v).toUInt32 % 65536).toInt32) = some (if chk 5 (nI v) = true then vl 5 (nI v) else -1) := by decide
  exact h v (by omega)
/-- a letter of a form -/
theorem value_L {q k : Nat} {c : Int32} (hl : f_str_length q = some (nI (fLen q))) (hin : f_X6_in (nI k) 0 (nI (fLen q) - 1) = some 1) {t : Int32} (ht : f_str_charAt q (nI k) = some t) : f_X2_valueAt q (nI k) c = if t = 68 then (f_X2_valueFrom 48 4 c).bind fun t => some t else if t = 76 then (f_X2_valueFrom 48 3 c).bind fun t => some t else if t = 77 then (f_X2_valueFrom 97 16 c).bind fun t => some t else if t = 78 then (f_X2_valueFrom 48 2 c).bind fun t => some t else if t = 87 then (f_X2_valueFrom 48 4 c).bind fun t => some t else if t = 89 then (f_str_indexOf 7 (((c).toUInt32 % 65536).toInt32)).bind fun t => some t else some (-1) := by
  unfold f_X2_valueAt
  rw [hl, Option.bind_some, isW, hin, Option.bind_some, if_neg (by decide), ht, Option.bind_some]
theorem valueAt_u {q k v : Nat} (hq1 : 1 ≤ q) (hq : q ≤ 5) (hk1 : 1 ≤ k) (hk : k < fLen q) (hv : v ≤ 126) : f_X2_valueAt q (nI k) (nI v) = some (if chk (kdOf q k) (nI v) = true then vl (kdOf q k) (nI v) else -1) := by
  have hqs : q = 1 ∨ q = 2 ∨ q = 3 ∨ q = 4 ∨ q = 5 := by omega
  have h4 : fLen q ≤ 4 := by rcases hqs with rfl | rfl | rfl | rfl | rfl <;> decide
  have hks : k = 1 ∨ k = 2 ∨ k = 3 := by omega
  rcases hqs with rfl | rfl | rfl | rfl | rfl
  · rcases hks with rfl | rfl | rfl
    · rw [value_L (t := 76) rfl rfl rfl, if_neg (by decide), if_pos (by decide), valueFrom_u (H := nI 2) (by decide), show kdOf 1 1 = 2 from rfl, chkF (by decide) (by decide)]; rfl
    · rw [value_L (t := 77) rfl rfl rfl, if_neg (by decide), if_neg (by decide), if_pos (by decide), valueFrom_u (H := 15) (by decide), show kdOf 1 2 = 4 from rfl, chkM]; rfl
    · rw [value_L (t := 89) rfl rfl rfl, if_neg (by decide), if_neg (by decide), if_neg (by decide), if_neg (by decide), if_neg (by decide), if_pos (by decide), chkY hv]; rfl
  · rcases hks with rfl | rfl | rfl
    · rw [value_L (t := 76) rfl rfl rfl, if_neg (by decide), if_pos (by decide), valueFrom_u (H := nI 2) (by decide), show kdOf 2 1 = 2 from rfl, chkF (by decide) (by decide)]; rfl
    · rw [value_L (t := 77) rfl rfl rfl, if_neg (by decide), if_neg (by decide), if_pos (by decide), valueFrom_u (H := 15) (by decide), show kdOf 2 2 = 4 from rfl, chkM]; rfl
    · rw [value_L (t := 87) rfl rfl rfl, if_neg (by decide), if_neg (by decide), if_neg (by decide), if_neg (by decide), if_pos (by decide), valueFrom_u (H := nI 3) (by decide), show kdOf 2 3 = 3 from rfl, chkF (by decide) (by decide)]; rfl
  · rcases hks with rfl | rfl | rfl
    · rw [value_L (t := 78) rfl rfl rfl, if_neg (by decide), if_neg (by decide), if_neg (by decide), if_pos (by decide), valueFrom_u (H := nI 1) (by decide), show kdOf 3 1 = 1 from rfl, chkF (by decide) (by decide)]; rfl
    · rw [value_L (t := 77) rfl rfl rfl, if_neg (by decide), if_neg (by decide), if_pos (by decide), valueFrom_u (H := 15) (by decide), show kdOf 3 2 = 4 from rfl, chkM]; rfl
    · rw [value_L (t := 68) rfl rfl rfl, if_pos (by decide), valueFrom_u (H := nI 3) (by decide), show kdOf 3 3 = 3 from rfl, chkF (by decide) (by decide)]; rfl
  · have hks2 : k = 1 ∨ k = 2 := by have : fLen 4 = 3 := rfl; omega
    rcases hks2 with rfl | rfl
    · rw [value_L (t := 77) rfl rfl rfl, if_neg (by decide), if_neg (by decide), if_pos (by decide), valueFrom_u (H := 15) (by decide), show kdOf 4 1 = 4 from rfl, chkM]; rfl
    · rw [value_L (t := 77) rfl rfl rfl, if_neg (by decide), if_neg (by decide), if_pos (by decide), valueFrom_u (H := 15) (by decide), show kdOf 4 2 = 4 from rfl, chkM]; rfl
  · exact absurd hk (by have : fLen 5 = 1 := rfl; omega)
/-- values are not negative -/
theorem vl_pos {kd : Nat} {c : Int32} (h : chk kd c = true) : (0 : Int32) ≤ vl kd c := by
  unfold chk at h
  unfold vl
  by_cases h4 : kd = 4
  · rw [if_pos h4] at h ⊢
    rw [decide_eq_true_eq] at h
    exact Int32.not_lt.mp h.1
  · rw [if_neg h4] at h ⊢
    by_cases h5 : kd = 5
    · rw [if_pos h5]
      split
      · decide
      · split <;> decide
    · rw [if_neg h5] at h ⊢
      rw [decide_eq_true_eq] at h
      exact Int32.not_lt.mp h.1
