/-! the law's drive -/
section LD3
variable {u : Nat → Nat} {a p w q dd e t : Nat → Int32} {d l : Nat} {L0 L : Nat → Nat} {le : Nat → Int32} {mo : Int32} {n : Nat}
/-- the steps tried ahead of cell n -/
def E0 (u : Nat → Nat) (d n : Nat) (s t w : Nat) : Prop := s < n ∧ edge u d s t w
/-- and j lanes of cell n -/
def E1 (u : Nat → Nat) (d n j : Nat) (s t w : Nat) : Prop := (s < n ∧ edge u d s t w) ∨ (s = n ∧ edge u d s t w ∧ (w = 0 ∨ ∃ g, g < j ∧ t = 16 * g + n % 16))
theorem E1_0 {s t w : Nat} (h : E1 u d n 0 s t w) : E0 u d n s t w ∨ (s = n ∧ w = 0 ∧ edge u d s t w) := by
  rcases h with h | ⟨h1, h2, h3⟩
  · exact Or.inl h
  · rcases h3 with h3 | ⟨g, h3, _⟩
    · exact Or.inr ⟨h1, h3, h2⟩
    · exact absurd h3 (Nat.not_lt_zero _)
theorem mod16 (hn : n < 48) : nI n - nI n / nI 16 * nI 16 = nI (n % 16) := pk_rem (by omega) (by omega) (by omega)
theorem mod16a (hn : n < 48) : nI n - nI (n / 16) * nI 16 = nI (n % 16) := by rw [pk_mul, pk_sub (by omega), show n - n / 16 * 16 = n % 16 by omega]
theorem mod16b (hn : n < 48) : nI n - nI (n / 16 * 16) = nI (n % 16) := by rw [pk_sub (by omega), show n - n / 16 * 16 = n % 16 by omega]
/-- a step to the next mile -/
theorem d117 (h : AR u a p w q dd e t) (hu : UOk u) (hd : d < 2) (hn : n < 48) (hR : RLe le L) (hS : St u d l L0 (E0 u d n) mo L) (hL : ∀ j, L0 j ≤ 99) : ∃ mo' le' L', (∀ k88, f_L_drive_j117 a dd (nI d) k88 (mo, nI n, le) (if d = 0 then nI (n % 16) + 1 else nI (n % 16) - 1) = f_L_drive_j194 a dd (nI d) k88 (mo, nI n, le) (mo', le')) ∧ RLe le' L' ∧ St u d l L0 (E1 u d n 0) mo' L' := by
  have hLn := Nat.le_trans (hS.1 n) (hL n)
  have hrow := hR n hn
  have skip : (∀ t, edge u d n t 0 → L n < 99 → L t ≤ L n) → St u d l L0 (E1 u d n 0) mo L := by
    intro hno
    refine hS.keep (fun s t w hE => ?_)
    rcases E1_0 hE with z | ⟨rfl, rfl, z⟩
    · exact Or.inl z
    · exact Or.inr (hno t z)
  by_cases h99 : 99 ≤ L n
  · refine ⟨mo, le, L, fun k88 => ?_, hR, skip (fun t _ z => by omega)⟩
    unfold f_L_drive_j117
    simp only [nI_clamp (show n < 2 ^ 31 by omega), g_in2 hn (show 48 < 2 ^ 31 by omega), ↓reduceIte, hrow, li99, leN (show 99 < 2 ^ 31 by omega) (show L n < 2 ^ 31 by omega), h99]
  · by_cases hx : ∃ x, x < 16 ∧ ((d = 0 ∧ x = n % 16 + 1) ∨ (d = 1 ∧ x + 1 = n % 16))
    · obtain ⟨x, hx16, hx⟩ := hx
      have hW : (if d = 0 then nI (n % 16) + 1 else nI (n % 16) - 1) = nI x := by
        rcases hx with ⟨rfl, hx⟩ | ⟨rfl, hx⟩
        · rw [if_pos rfl, nI_1, hx]
        · rw [if_neg (by omega), li1, pk_sub (by omega), show n % 16 - 1 = x by omega]
      rw [hW]
      have hix : nI n - nI (n % 16) + nI x = nI (16 * (n / 16) + x) := by
        rw [pk_sub (by omega), nI_add, show n - n % 16 + x = 16 * (n / 16) + x by omega]
      have hLx := Nat.le_trans (hS.1 (16 * (n / 16) + x)) (hL (16 * (n / 16) + x))
      have hrx := hR (16 * (n / 16) + x) (by omega)
      have uniq : ∀ t, edge u d n t 0 → frB u (n / 16) x d = true ∧ t = 16 * (n / 16) + x := by
        rintro t (⟨_, n', hn', hx', hf, rfl⟩ | ⟨z, _⟩)
        · have : n' = x := by omega
          subst this
          exact ⟨hf, rfl⟩
        · omega
      have main : ∀ k88, f_L_drive_j117 a dd (nI d) k88 (mo, nI n, le) (nI x) = if frB u (n / 16) x d = true then (if L (16 * (n / 16) + x) ≤ L n then f_L_drive_j194 a dd (nI d) k88 (mo, nI n, le) (mo, le) else f_L_drive_j194 a dd (nI d) k88 (mo, nI n, le) (1, upd le (16 * (n / 16) + x) (nI (L n)))) else f_L_drive_j194 a dd (nI d) k88 (mo, nI n, le) (mo, le) := by
        intro k88
        unfold f_L_drive_j117
        simp only [nI_clamp (show n < 2 ^ 31 by omega), g_in2 hn (show 48 < 2 ^ 31 by omega), ↓reduceIte, hrow, li99, leN (show 99 < 2 ^ 31 by omega) (show L n < 2 ^ 31 by omega), h99, ltz (show x < 2 ^ 31 by omega), li16, leN (show 16 < 2 ^ 31 by omega) (show x < 2 ^ 31 by omega), show ¬ 16 ≤ x by omega, mod16 hn, mod16a hn, mod16b hn, pk_div (show n < 2 ^ 31 by omega) (show 0 < 16 by omega) (show 16 < 2 ^ 31 by omega), free_u h hu (show n / 16 < 3 by omega) hx16 hd, Option.bind_some, hix, nI_clamp (show 16 * (n / 16) + x < 2 ^ 31 by omega), g_in2 (show 16 * (n / 16) + x < 48 by omega) (show 48 < 2 ^ 31 by omega), hrx, leN (show L (16 * (n / 16) + x) < 2 ^ 31 by omega) (show L n < 2 ^ 31 by omega)]
        by_cases hf : frB u (n / 16) x d = true
        · simp only [if_pos hf, show ¬ (1 : Int32) = 0 by decide, ↓reduceIte]
        · simp only [if_neg hf, ↓reduceIte]
      by_cases hf : frB u (n / 16) x d = true
      · by_cases hle : L (16 * (n / 16) + x) ≤ L n
        · refine ⟨mo, le, L, fun k88 => by rw [main, if_pos hf, if_pos hle], hR, skip (fun t ht _ => ?_)⟩
          rw [(uniq t ht).2]; exact hle
        · have he : edge u d n (16 * (n / 16) + x) 0 := Or.inl ⟨rfl, x, hx16, hx, hf, rfl⟩
          obtain ⟨b1, b2⟩ := edge_B (l := l) hd hn he
          exact ⟨1, _, _, fun k88 => by rw [main, if_pos hf, if_neg hle]; rfl, hR.upd _ _, hS.relax (w := 0) hn b1 b2 (by omega)⟩
      · refine ⟨mo, le, L, fun k88 => by rw [main, if_neg hf], hR, skip (fun t ht _ => ?_)⟩
        exact absurd (uniq t ht).1 hf
    · refine ⟨mo, le, L, fun k88 => ?_, hR, skip (fun t ht _ => ?_)⟩
      · have hm : n % 16 < 16 := by omega
        unfold f_L_drive_j117
        simp only [nI_clamp (show n < 2 ^ 31 by omega), g_in2 hn (show 48 < 2 ^ 31 by omega), ↓reduceIte, hrow, li99, leN (show 99 < 2 ^ 31 by omega) (show L n < 2 ^ 31 by omega), h99]
        by_cases h0 : d = 0
        · have h15 : n % 16 = 15 := Classical.byContradiction fun z => hx ⟨n % 16 + 1, by omega, Or.inl ⟨h0, rfl⟩⟩
          rw [if_pos h0, h15, if_neg (show ¬ nI 15 + 1 < 0 by decide), if_pos (show (16 : Int32) ≤ nI 15 + 1 by decide)]
        · have h15 : n % 16 = 0 := Classical.byContradiction fun z => hx ⟨n % 16 - 1, by omega, Or.inr ⟨by omega, by omega⟩⟩
          rw [if_neg h0, h15, if_pos (show nI 0 - 1 < 0 by decide)]
      · rcases ht with ⟨_, n', hn', hx', _⟩ | ⟨z, _⟩
        · exact absurd ⟨n', hn', hx'⟩ hx
        · omega
theorem sub1 {j k : Nat} (hj : j < 3) (hk : k < 3) : (nI j - nI k = 1) = (j = k + 1) ∧ (nI j - nI k = -1) = (j + 1 = k) := by
  have hj' : j = 0 ∨ j = 1 ∨ j = 2 := by omega
  have hk' : k = 0 ∨ k = 1 ∨ k = 2 := by omega
  rcases hj' with rfl | rfl | rfl <;> rcases hk' with rfl | rfl | rfl <;> exact ⟨propext ⟨fun z => by first | rfl | exact absurd z (by decide), fun z => by first | rfl | exact absurd z (by omega)⟩, propext ⟨fun z => by first | rfl | exact absurd z (by decide), fun z => by first | rfl | exact absurd z (by omega)⟩⟩
/-- a change of lane -/
theorem d197 (h : AR u a p w q dd e t) (hu : UOk u) (hd : d < 2) (hn : n < 48) {j : Nat} (hj : j < 3) (hR : RLe le L) (hS : St u d l L0 (E1 u d n j) mo L) (hL : ∀ j, L0 j ≤ 99) : ∃ mo' le' L', (∀ k88 m8 l8 k197, f_L_drive_l197 a dd (nI d) k88 (m8, nI n, l8) k197 (mo, nI j, le) = k197 (mo', nI (j + 1), le')) ∧ RLe le' L' ∧ St u d l L0 (E1 u d n (j + 1)) mo' L' := by
  have hLn := Nat.le_trans (hS.1 n) (hL n)
  have hrow := hR n hn
  have skip : (edge u d n (16 * j + n % 16) 1 → L n < 99 → L (16 * j + n % 16) ≤ L n + 1) → St u d l L0 (E1 u d n (j + 1)) mo L := by
    intro hno
    refine hS.keep (fun s t w hE => ?_)
    rcases hE with z | ⟨rfl, z1, z2⟩
    · exact Or.inl (Or.inl z)
    · rcases z2 with z2 | ⟨g, hg, rfl⟩
      · exact Or.inl (Or.inr ⟨rfl, z1, Or.inl z2⟩)
      · by_cases hgj : g = j
        · subst hgj
          by_cases w1 : w = 1
          · subst w1
            exact Or.inr (hno z1)
          · refine Or.inl (Or.inr ⟨rfl, z1, Or.inl ?_⟩)
            rcases z1 with ⟨z, _⟩ | ⟨z, _⟩
            · exact z
            · exact absurd z w1
        · exact Or.inl (Or.inr ⟨rfl, z1, Or.inr ⟨g, by omega, rfl⟩⟩)
  obtain ⟨s1, s2⟩ := sub1 hj (show n / 16 < 3 by omega)
  have hmm : n % 16 < 16 := by omega
  by_cases hadj : j = n / 16 + 1 ∨ j + 1 = n / 16
  · have hLx := Nat.le_trans (hS.1 (16 * j + n % 16)) (hL (16 * j + n % 16))
    have hrx := hR (16 * j + n % 16) (by omega)
    have main : ∀ k88 m8 l8 k197, f_L_drive_l197 a dd (nI d) k88 (m8, nI n, l8) k197 (mo, nI j, le) = if 99 ≤ L n then k197 (mo, nI (j + 1), le) else if okC u (n / 16) j (n % 16) d = true then (if L (16 * j + n % 16) ≤ L n + 1 then k197 (mo, nI (j + 1), le) else k197 (1, nI (j + 1), upd le (16 * j + n % 16) (nI (L n + 1)))) else k197 (mo, nI (j + 1), le) := by
      intro k88 m8 l8 k197
      have j232 : f_L_drive_j232 a dd (nI d) (m8, nI n, l8) k197 (mo, nI j, le) 1 = if 99 ≤ L n then k197 (mo, nI (j + 1), le) else if okC u (n / 16) j (n % 16) d = true then (if L (16 * j + n % 16) ≤ L n + 1 then k197 (mo, nI (j + 1), le) else k197 (1, nI (j + 1), upd le (16 * j + n % 16) (nI (L n + 1)))) else k197 (mo, nI (j + 1), le) := by
        unfold f_L_drive_j232
        simp only [show ¬ (1 : Int32) = 0 by decide, ↓reduceIte, nI_clamp (show n < 2 ^ 31 by omega), g_in2 hn (show 48 < 2 ^ 31 by omega), hrow, li99, leN (show 99 < 2 ^ 31 by omega) (show L n < 2 ^ 31 by omega), nI_1, li16, mod16 hn, mod16a hn, mod16b hn, pk_div (show n < 2 ^ 31 by omega) (show 0 < 16 by omega) (show 16 < 2 ^ 31 by omega), change_u h hu (show n / 16 < 3 by omega) hj (show n / 16 ≠ j by omega) hmm hd, Option.bind_some, pk_mul, nI_add, nI_clamp (show 16 * j + n % 16 < 2 ^ 31 by omega), g_in2 (show 16 * j + n % 16 < 48 by omega) (show 48 < 2 ^ 31 by omega), hrx, leN (show L (16 * j + n % 16) < 2 ^ 31 by omega) (show L n + 1 < 2 ^ 31 by omega)]
        by_cases h99 : 99 ≤ L n
        · rw [if_pos h99, if_pos h99]
        · rw [if_neg h99, if_neg h99]
          by_cases ho : okC u (n / 16) j (n % 16) d = true
          · simp only [if_pos ho, show ¬ (1 : Int32) = 0 by decide, ↓reduceIte]
          · simp only [if_neg ho, ↓reduceIte]
      unfold f_L_drive_l197 f_L_drive_j227
      simp only [li3, leN (show 3 < 2 ^ 31 by omega) (show j < 2 ^ 31 by omega), show ¬ 3 ≤ j by omega, ↓reduceIte, li16, pk_div (show n < 2 ^ 31 by omega) (show 0 < 16 by omega) (show 16 < 2 ^ 31 by omega), s1, s2]
      by_cases a1 : j = n / 16 + 1
      · rw [if_pos a1, j232]
      · rw [if_neg a1, if_pos (show j + 1 = n / 16 by omega), j232]
    by_cases h99 : 99 ≤ L n
    · exact ⟨mo, le, L, fun k88 m8 l8 k197 => by rw [main, if_pos h99], hR, skip (fun _ z => by omega)⟩
    · by_cases ho : okC u (n / 16) j (n % 16) d = true
      · by_cases hle : L (16 * j + n % 16) ≤ L n + 1
        · exact ⟨mo, le, L, fun k88 m8 l8 k197 => by rw [main, if_neg h99, if_pos ho, if_pos hle], hR, skip (fun _ _ => hle)⟩
        · have he : edge u d n (16 * j + n % 16) 1 := Or.inr ⟨rfl, j, hj, hadj, ho, rfl⟩
          obtain ⟨b1, b2⟩ := edge_B (l := l) hd hn he
          exact ⟨1, _, _, fun k88 m8 l8 k197 => by rw [main, if_neg h99, if_pos ho, if_neg hle], hR.upd _ _, hS.relax (w := 1) hn b1 b2 (by omega)⟩
      · refine ⟨mo, le, L, fun k88 m8 l8 k197 => by rw [main, if_neg h99, if_neg ho], hR, skip (fun he _ => ?_)⟩
        rcases he with ⟨z, _⟩ | ⟨_, g, hg, _, hog, hge⟩
        · omega
        · have : g = j := by omega
          subst this
          exact absurd hog ho
  · refine ⟨mo, le, L, fun k88 m8 l8 k197 => ?_, hR, skip (fun he _ => ?_)⟩
    · unfold f_L_drive_l197 f_L_drive_j232
      simp only [li3, leN (show 3 < 2 ^ 31 by omega) (show j < 2 ^ 31 by omega), show ¬ 3 ≤ j by omega, ↓reduceIte, li16, pk_div (show n < 2 ^ 31 by omega) (show 0 < 16 by omega) (show 16 < 2 ^ 31 by omega), s1, s2, show ¬ j = n / 16 + 1 from fun z => hadj (Or.inl z), show ¬ j + 1 = n / 16 from fun z => hadj (Or.inr z), nI_1]
    · rcases he with ⟨z, _⟩ | ⟨_, g, hg, hx, _, hge⟩
      · omega
      · have : g = j := by omega
        subst this
        exact absurd hx hadj
/-- a cell of a pass -/
theorem d88 (h : AR u a p w q dd e t) (hu : UOk u) (hd : d < 2) (hn : n < 48) (hR : RLe le L) (hS : St u d l L0 (E0 u d n) mo L) (hL : ∀ j, L0 j ≤ 99) (k77 : (Int32 × TV48s) → Option Int32) (k88 : (Int32 × Int32 × TV48s) → Option Int32) : ∃ mo' le' L', f_L_drive_l88 a dd (nI d) k77 k88 (mo, nI n, le) = k88 (mo', nI (n + 1), le') ∧ RLe le' L' ∧ St u d l L0 (E0 u d (n + 1)) mo' L' := by
  obtain ⟨m1, l1, L1, e1, r1, t1⟩ := d117 h hu hd hn hR hS hL
  have start : f_L_drive_l88 a dd (nI d) k77 k88 (mo, nI n, le) = lpN (f_L_drive_l197 a dd (nI d) k88 (mo, nI n, le)) 3000 (m1, 0, l1) := by
    have e2 := e1 k88
    unfold f_L_drive_l88
    simp only [li48, leN (show 48 < 2 ^ 31 by omega) (show n < 2 ^ 31 by omega), show ¬ 48 ≤ n by omega, nI_pos (show n < 2 ^ 31 by omega), ↓reduceIte, eq0 (show d < 2 ^ 31 by omega), li16, mod16 hn]
    by_cases h0 : d = 0
    · rw [if_pos h0] at e2 ⊢
      rw [e2]; rfl
    · rw [if_neg h0] at e2 ⊢
      rw [e2]; rfl
  obtain ⟨⟨v1, v2, v3⟩, m, ⟨e3, L', e4, e5⟩, q⟩ := lp_for1 (f_L_drive_l197 a dd (nI d) k88 (mo, nI n, le)) (fun j v => v.2.1 = nI j ∧ ∃ L', RLe v.2.2 L' ∧ St u d l L0 (E1 u d n j) v.1 L') 3 (by
    rintro j hj ⟨v1, v2, v3⟩ ⟨g1, L', g2, g3⟩
    simp only at g1 g2 g3
    subst g1
    obtain ⟨m2, l2, L2, f1, f2, f3⟩ := d197 h hu hd hn hj g2 g3 hL
    exact ⟨(m2, nI (j + 1), l2), ⟨rfl, L2, f2, f3⟩, fun k => f1 k88 mo le k⟩) (a := (m1, 0, l1)) ⟨rfl, L1, r1, t1⟩ (by omega)
  simp only at e3 e4 e5
  subst e3
  refine ⟨v1, v3, L', ?_, e4, e5.keep (fun s t w hE => Or.inl ?_)⟩
  · rw [start, q]
    unfold f_L_drive_l197
    rw [if_pos (show (3 : Int32) ≤ nI 3 by decide)]
    exact congrArg (fun z => k88 (v1, z, v3)) (nI_1 n)
  · obtain ⟨hs, he⟩ := hE
    by_cases hsn : s = n
    · subst hsn
      refine Or.inr ⟨rfl, he, ?_⟩
      rcases he with ⟨z, _⟩ | ⟨_, g, hg, _, _, hge⟩
      · exact Or.inl z
      · exact Or.inr ⟨g, hg, hge⟩
    · exact Or.inl ⟨by omega, he⟩
/-- what holds at the end: no number is too high -/
theorem rx_lb {ee : Bool} {i j : Nat} {g c : Nat → Nat} (hg : ∀ k, k < 3 → g k ≤ c k) (h99 : ∀ k, k < 3 → g k ≤ 99) (hi : i < 3) (hj : j < 3) (he : ee = true → g i < 99 → g j ≤ g i + 1) : ∀ k, k < 3 → g k ≤ rx ee i j c k := by
  intro k hk
  by_cases hkj : k = j
  · subst hkj
    rw [rx_j]
    have h1 := hg k hk
    have h2 := hg i hi
    have h3 := h99 k hk
    have h4 := h99 i hi
    by_cases ht : ee = true
    · rw [if_pos ht]
      by_cases hl : g i < 99
      · have := he ht hl
        omega
      · omega
    · rw [if_neg ht]; exact h1
  · rw [rx_n hkj]; exact hg k hk
theorem fix_u {L : Nat → Nat} (hl : l < 3) (hd : d < 2) (hL : ∀ j, L j ≤ 99) (h0 : L (16 * l + mlD d 0) ≤ if frB u l (mlD d 0) d = true then 0 else 99) (hF : ∀ s t w, s < 48 → edge u d s t w → L s < 99 → L t ≤ L s + w) : ∀ i, i < 16 → ∀ k, k < 3 → L (16 * k + mlD d i) ≤ dp u d l (i + 1) k := by
  have step : ∀ i c, i < 16 → (∀ k, k < 3 → L (16 * k + mlD d i) ≤ ent u (mlD d i) d c k) → ∀ k, k < 3 → L (16 * k + mlD d i) ≤ fo u (mlD d i) d c k := by
    intro i c hi hc
    have hm : mlD d i < 16 := by unfold mlD; split <;> omega
    have hE : ∀ x y, x < 3 → y < 3 → (y = x + 1 ∨ y + 1 = x) → okC u x y (mlD d i) d = true → L (16 * x + mlD d i) < 99 → L (16 * y + mlD d i) ≤ L (16 * x + mlD d i) + 1 := by
      intro x y hx hy hxy ho hlt
      refine hF (16 * x + mlD d i) (16 * y + mlD d i) 1 (by omega) (Or.inr ⟨rfl, y, hy, ?_, ?_, ?_⟩) hlt
      · rw [show (16 * x + mlD d i) / 16 = x by omega]; exact hxy
      · rw [show (16 * x + mlD d i) / 16 = x by omega, show (16 * x + mlD d i) % 16 = mlD d i by omega]; exact ho
      · rw [show (16 * x + mlD d i) % 16 = mlD d i by omega]
    have h99 : ∀ k, k < 3 → L (16 * k + mlD d i) ≤ 99 := fun k _ => hL _
    unfold fo fou
    refine rx_lb (g := fun k => L (16 * k + mlD d i)) (rx_lb (g := fun k => L (16 * k + mlD d i)) (rx_lb (g := fun k => L (16 * k + mlD d i)) (rx_lb (g := fun k => L (16 * k + mlD d i)) hc h99 (by omega) (by omega) ?_) h99 (by omega) (by omega) ?_) h99 (by omega) (by omega) ?_) h99 (by omega) (by omega) ?_
    · exact fun ho hlt => hE 0 1 (by omega) (by omega) (by omega) ho hlt
    · exact fun ho hlt => hE 1 2 (by omega) (by omega) (by omega) ho hlt
    · exact fun ho hlt => hE 2 1 (by omega) (by omega) (by omega) ho hlt
    · exact fun ho hlt => hE 1 0 (by omega) (by omega) (by omega) ho hlt
  intro i
  induction i with
  | zero =>
    intro hi
    refine step 0 (dp u d l 0) hi (fun k hk => ?_)
    unfold ent
    by_cases hf : frB u k (mlD d 0) d = true
    · rw [if_pos hf]
      show _ ≤ if k = l then 0 else 1000
      by_cases hkl : k = l
      · rw [if_pos hkl]
        subst hkl
        rw [if_pos hf] at h0
        exact h0
      · rw [if_neg hkl]
        exact Nat.le_trans (hL _) (by omega)
    · rw [if_neg hf]
      exact Nat.le_trans (hL _) (by omega)
  | succ i ih =>
    intro hi
    refine step (i + 1) (dp u d l (i + 1)) hi (fun k hk => ?_)
    have hp := ih (by omega) k hk
    unfold ent
    by_cases hf : frB u k (mlD d (i + 1)) d = true
    · rw [if_pos hf]
      by_cases hlt : L (16 * k + mlD d i) < 99
      · have hm : mlD d i < 16 := by unfold mlD; split <;> omega
        have hm2 : mlD d (i + 1) < 16 := by unfold mlD; split <;> omega
        have := hF (16 * k + mlD d i) (16 * k + mlD d (i + 1)) 0 (by omega) (Or.inl ⟨rfl, mlD d (i + 1), hm2, ?_, ?_, ?_⟩) hlt
        · omega
        · rw [show (16 * k + mlD d i) % 16 = mlD d i by omega]
          unfold mlD
          by_cases hd0 : d = 0
          · rw [if_pos hd0, if_pos hd0]; exact Or.inl ⟨hd0, rfl⟩
          · rw [if_neg hd0, if_neg hd0]; exact Or.inr ⟨by omega, by omega⟩
        · rw [show (16 * k + mlD d i) / 16 = k by omega]; exact hf
        · rw [show (16 * k + mlD d i) / 16 = k by omega]
      · exact Nat.le_trans (hL _) (by omega)
    · rw [if_neg hf]
      exact Nat.le_trans (hL _) (by omega)
end LD3
