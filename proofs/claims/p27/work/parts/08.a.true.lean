/-! both begin alike; the law holds -/
def uB (k : Nat) : Nat := if k = 0 then 30 else if k = 1 then 12 else if k < 5 then 5 else if k = 5 then 20 else 0
theorem uB_6 {k : Nat} (h : 6 ≤ k) : uB k = 0 := by
  unfold uB
  rw [if_neg (by omega), if_neg (by omega), if_neg (by omega), if_neg (by omega)]
theorem shp_B : Shp iX3 := ⟨⟨rfl, rfl⟩, ⟨rfl, rfl⟩, ⟨rfl, rfl⟩⟩
theorem rd_B : RdU uB iX3 := by
  refine ⟨⟨rfl, rfl, fun i hi => ⟨?_, fun h => absurd (uB_6 (by omega)) h⟩⟩, ⟨rfl, rfl, fun i hi => ⟨?_, fun h => absurd (uB_6 (by omega)) h⟩⟩, ⟨rfl, rfl, fun i hi => ⟨?_, fun h => absurd (uB_6 (by omega)) h⟩⟩, fun i hi => ?_, fun i hi => ?_, rfl⟩
  · rw [uB_6 (by omega)]; rfl
  · rw [uB_6 (by omega)]; rfl
  · rw [uB_6 (by omega)]; rfl
  · have : i = 0 ∨ i = 1 ∨ i = 2 := by omega
    rcases this with rfl | rfl | rfl <;> rfl
  · have : i = 0 ∨ i = 1 := by omega
    rcases this with rfl | rfl <;> rfl
theorem ok_B : UOk uB := by
  refine ⟨fun i hi => ?_, fun i hi => ?_, fun i hi => ?_, ⟨by decide, by decide⟩, ⟨by decide, by decide⟩, fun i hi => ?_, by decide⟩
  · rw [uB_6 (by omega), uB_6 (by omega)]; exact ⟨by omega, Iff.rfl, by omega⟩
  · rw [uB_6 (by omega), uB_6 (by omega)]; exact ⟨by omega, Iff.rfl, by omega⟩
  · rw [uB_6 (by omega), uB_6 (by omega)]; exact ⟨by omega, Iff.rfl, by omega⟩
  · have : i = 0 ∨ i = 1 ∨ i = 2 := by omega
    rcases this with rfl | rfl | rfl <;> decide
def tB : Nat → Int32 := upd (upd (upd (upd (upd (upd (fun _ => 0) 0 30) 1 12) 2 5) 3 5) 4 5) 5 20
theorem tB_u {i : Nat} (hi : i < 6) : tB i = nI (uB i) := by
  have : i = 0 ∨ i = 1 ∨ i = 2 ∨ i = 3 ∨ i = 4 ∨ i = 5 := by omega
  rcases this with rfl | rfl | rfl | rfl | rfl | rfl <;> rfl
theorem lr_B {a w : Nat → Int32} (h : ∀ i, i < 48 → a i = -1 ∧ w i = -1) : LR iX5 a (fun _ => 0) w (fun _ => 0) (fun _ => 0) (fun _ => 0) tB := by
  refine ⟨⟨uB, rd_B, ok_B, fun i hi => ⟨?_, ?_, ?_, ?_⟩, fun i hi => ⟨?_, ?_⟩, fun i hi => tB_u hi⟩, ⟨rfl, rfl, rfl, rfl⟩, ⟨0, 0, by omega, by omega, rfl, rfl, fun _ _ => shp_B⟩⟩
  · rw [uB_6 (by omega), (h i hi).1]; rfl
  · rw [uB_6 (by omega)]; rfl
  · rw [uB_6 (by omega), (h i hi).2]; rfl
  · rw [uB_6 (by omega)]; rfl
  · rw [uB_6 (by omega)]; rfl
  · rw [uB_6 (by omega)]; rfl
theorem law_true (L : Nat) (xs : Nat → Int32) (hL : L ≤ 260) : f_L_law L xs iX5 = some 1 := by
  have hfill := lp_for1 (f_L_law_l51 L xs) (fun j v => ∃ a w : TV48s, v = (nI j, iX5, a, (fun _ => 0), w, (fun _ => 0), (fun _ => 0), (fun _ => 0), (fun _ => 0)) ∧ ∀ i, i < j → a i = -1 ∧ w i = -1) 48 (by
    rintro j hj v ⟨a, w, rfl, hw⟩
    refine ⟨(nI (j + 1), iX5, upd a j (-1), (fun _ => 0), upd w j (-1), (fun _ => 0), (fun _ => 0), (fun _ => 0), (fun _ => 0)), ⟨_, _, rfl, fun i hi => ?_⟩, fun k => ?_⟩
    · by_cases e : i = j
      · subst e; exact ⟨upd_eq, upd_eq⟩
      · exact ⟨(upd_ne e).trans (hw i (by omega)).1, (upd_ne e).trans (hw i (by omega)).2⟩
    · unfold f_L_law_l51
      rw [if_neg (show ¬ (48 : Int32) ≤ nI j by rw [li48, nI_leI (by omega) (by omega)]; omega)]
      simp only [nI_clamp (show j < 2 ^ 31 by omega), g_in2 hj (show 48 < 2 ^ 31 by omega), ↓reduceIte, nI_1]) (a := (0, iX5, (fun _ => 0), (fun _ => 0), (fun _ => 0), (fun _ => 0), (fun _ => 0), (fun _ => 0), (fun _ => 0))) ⟨_, _, rfl, fun i hi => absurd hi (Nat.not_lt_zero _)⟩ (by omega)
  obtain ⟨v, m, ⟨a, w, rfl, ha⟩, hq⟩ := hfill
  unfold f_L_law
  refine hq.trans ?_
  unfold f_L_law_l51
  rw [if_pos (show (48 : Int32) ≤ nI 48 by decide)]
  simp only [tc0, tg0, tc1, tg1, tc2, tg2, tc3, tg3, tc4, tg4, tc5, tg5, tc6, tg6, tc7, tg7, tc8, tg8, tc9, tg9, ↓reduceIte]
  refine lpN_rule (f_L_law_l111 L xs) (fun _ res => res = some 1) (fun v => ∃ n, n ≤ 70 ∧ v.1 = nI n ∧ LR v.2.1 v.2.2.1 v.2.2.2.1 v.2.2.2.2.1 v.2.2.2.2.2.1 v.2.2.2.2.2.2.1 v.2.2.2.2.2.2.2.1 v.2.2.2.2.2.2.2.2) (fun v => 70 - v.1.toNatClampNeg) ?_ 100 _ ⟨0, by omega, rfl, lr_B ha⟩ (by show 70 - (0 : Int32).toNatClampNeg < 100; omega)
  rintro k ⟨v1, x, a, p, w, q, d, e, t⟩ ⟨n, hn, e1, h⟩ hk
  simp only at e1 h
  subst e1
  refine step_u hL h hn (fun hn2 x' a' p' w' q' d' e' t' h' => hk _ ⟨n + 1, by omega, rfl, h'⟩ ?_)
  show 70 - (nI (n + 1)).toNatClampNeg < 70 - (nI n).toNatClampNeg
  rw [nI_clamp (by omega), nI_clamp (by omega)]
  omega
