/-! what changes the signs -/
/-- the core: signs, traffic, settings, cans -/
def RZc (r : TX3s) (z : Nat → Int32) : Prop := ∃ u : Nat → Nat, RdU u r ∧ ZU u z ∧ UOk u
/-- what a sign loses -/
def lsU (u : Nat → Nat) (p l : Nat) : Nat → Nat := if u p = 0 then u else set2 u p (if u (p + 1) - l = 0 then 0 else u p) (u (p + 1) - l)
theorem lsU_n {u : Nat → Nat} {p l k : Nat} (h : k ≠ p) (h1 : k ≠ p + 1) : lsU u p l k = u k := by
  unfold lsU
  split
  · rfl
  · exact set2_n h h1
section LS
variable {u : Nat → Nat} {r : TX3s} {y : TX6s}
theorem loses_s (hz : ZU u y.1) {p l : Nat} (hp : 12 ≤ p) (hp2 : p + 1 < 268) (h1 : u (p + 1) ≤ 100) (h0 : u p ≤ 100) (h2 : u p = 0 ↔ u (p + 1) = 0) (hl : l ≤ 1000) : ∃ z', f_X6_loses y (nI p) (nI l) = some ((if u p = 0 then 0 else if u (p + 1) - l = 0 then 1 else 0), (z', y.2)) ∧ ZU (lsU u p l) z' ∧ ∀ k, k < 12 → z' k = y.1 k := by
  rw [loses_u hz hp hp2 h1 h0 h2 hl]
  unfold lsU
  by_cases e0 : u p = 0
  · simp only [if_pos e0]
    exact ⟨y.1, rfl, hz, fun k _ => rfl⟩
  · simp only [if_neg e0]
    by_cases e1 : u (p + 1) - l = 0
    · simp only [if_pos e1]
      refine ⟨_, rfl, hz.set (upd_eq) ?_ ?_, ?_⟩
      · rw [upd_ne (by omega), upd_eq, e1]; rfl
      · intro k h3 h4
        rw [upd_ne h3, upd_ne h4]
      · intro k hk
        rw [upd_ne (by omega), upd_ne (by omega)]
    · simp only [if_neg e1]
      refine ⟨_, rfl, hz.set ?_ upd_eq ?_, ?_⟩
      · rw [upd_ne (by omega)]; exact hz.at (by omega) (Or.inr hp)
      · intro k h3 h4
        rw [upd_ne h4]
      · intro k hk
        rw [upd_ne (by omega)]
theorem lsA (hr : RdU u r) (hu : UOk u) {a b l : Nat} (ha : a < 3) (hb : b < 16) (hl : l ≤ 1000) : ∃ s', f_X4_weaken r.1 (nI a) (nI b) (nI l) = some ((if u (12 + 4 * (16 * a + b)) = 0 then 0 else if u (12 + 4 * (16 * a + b) + 1) - l = 0 then 1 else 0), s') ∧ RdU (lsU u (12 + 4 * (16 * a + b)) l) (s', r.2) ∧ UOk (lsU u (12 + 4 * (16 * a + b)) l) := by
  obtain ⟨h6, h7, h8⟩ := hu.1 _ (show 16 * a + b < 48 by omega)
  rw [weaken_u hr.1 hu.1 (by omega) (show 16 * a + b < 48 by omega) hl]
  unfold lsU
  by_cases e0 : u (12 + 4 * (16 * a + b)) = 0
  · simp only [if_pos e0]
    exact ⟨r.1, rfl, hr, hu⟩
  · simp only [if_neg e0]
    refine ⟨_, rfl, hr.setA (by omega) rfl rfl (fun j hj hji => rfl) (fun j hj hji => upd_ne hji) (fun hc => ?_) upd_eq, hu.setA (by omega) (by omega) ?_ ?_⟩
    · rw [(hr.1.2.2 _ (show 16 * a + b < 48 by omega)).2 e0]
      rw [if_neg (fun z => hc (if_pos z))]
    · split <;> omega
    · split <;> omega
theorem lsW (hr : RdU u r) (hu : UOk u) {a b l : Nat} (ha : a < 3) (hb : b < 16) (hl : l ≤ 1000) : ∃ s', f_X4_weaken r.2.1 (nI a) (nI b) (nI l) = some ((if u (14 + 4 * (16 * a + b)) = 0 then 0 else if u (14 + 4 * (16 * a + b) + 1) - l = 0 then 1 else 0), s') ∧ RdU (lsU u (14 + 4 * (16 * a + b)) l) (r.1, s', r.2.2) ∧ UOk (lsU u (14 + 4 * (16 * a + b)) l) := by
  obtain ⟨h6, h7, h8⟩ := hu.2.1 _ (show 16 * a + b < 48 by omega)
  rw [weaken_u hr.2.1 hu.2.1 (by omega) (show 16 * a + b < 48 by omega) hl]
  unfold lsU
  by_cases e0 : u (14 + 4 * (16 * a + b)) = 0
  · simp only [if_pos e0]
    exact ⟨r.2.1, rfl, hr, hu⟩
  · simp only [if_neg e0]
    refine ⟨_, rfl, hr.setW (by omega) rfl rfl (fun j hj hji => rfl) (fun j hj hji => upd_ne hji) (fun hc => ?_) upd_eq, hu.setW (by omega) (by omega) ?_ ?_⟩
    · rw [(hr.2.1.2.2 _ (show 16 * a + b < 48 by omega)).2 e0]
      rw [if_neg (fun z => hc (if_pos z))]
    · split <;> omega
    · split <;> omega
theorem lsD (hr : RdU u r) (hu : UOk u) {a b l : Nat} (ha : a < 2) (hb : b < 16) (hl : l ≤ 1000) : ∃ s', f_X4_weaken r.2.2.1 (nI a) (nI b) (nI l) = some ((if u (204 + 2 * (16 * a + b)) = 0 then 0 else if u (204 + 2 * (16 * a + b) + 1) - l = 0 then 1 else 0), s') ∧ RdU (lsU u (204 + 2 * (16 * a + b)) l) (r.1, r.2.1, s', r.2.2.2) ∧ UOk (lsU u (204 + 2 * (16 * a + b)) l) := by
  obtain ⟨h6, h7, h8⟩ := hu.2.2.1 _ (show 16 * a + b < 32 by omega)
  rw [weaken_u hr.2.2.1 hu.2.2.1 (by omega) (show 16 * a + b < 32 by omega) hl]
  unfold lsU
  by_cases e0 : u (204 + 2 * (16 * a + b)) = 0
  · simp only [if_pos e0]
    exact ⟨r.2.2.1, rfl, hr, hu⟩
  · simp only [if_neg e0]
    refine ⟨_, rfl, hr.setD (by omega) rfl rfl (fun j hj hji => rfl) (fun j hj hji => upd_ne hji) (fun hc => ?_) upd_eq, hu.setD (by omega) (by omega) ?_ ?_⟩
    · rw [(hr.2.2.1.2.2 _ (show 16 * a + b < 32 by omega)).2 e0]
      rw [if_neg (fun z => hc (if_pos z))]
    · split <;> omega
    · split <;> omega
/-- new signs: the reference's numbers -/
theorem signs_s (hz : ZU u y.1) {p c : Nat} (hp : 12 ≤ p) (hp2 : p + 1 < 268) (hc : c < 100) : ∃ z', f_X6_signs y (nI p) (nI c) = some (nI c, (z', y.2)) ∧ ZU (set2 u p c (if c = 0 then 0 else 100)) z' ∧ ∀ k, k < 12 → z' k = y.1 k := by
  rw [signs_u hp2 (by omega)]
  refine ⟨_, rfl, hz.set ?_ upd_eq ?_, ?_⟩
  · rw [upd_ne (by omega), upd_eq]
  · intro k h3 h4
    rw [upd_ne h4, upd_ne h3]
  · intro k hk
    rw [upd_ne (by omega), upd_ne (by omega)]
theorem ntA (hr : RdU u r) (hu : UOk u) {a b d : Nat} (ha : a < 3) (hb : b < 16) (hd : d < 3) : ∃ s', f_X4_paint r.1 (nI a) (nI b) (nI d) = some s' ∧ RdU (set2 u (12 + 4 * (16 * a + b)) (d + 1) 100) (s', r.2) ∧ UOk (set2 u (12 + 4 * (16 * a + b)) (d + 1) 100) := by
  rw [paint_u hr.1 (by omega) (show 16 * a + b < 48 by omega)]
  refine ⟨_, rfl, hr.setA (by omega) rfl rfl (fun j hj hji => upd_ne hji) (fun j hj hji => upd_ne hji) (fun hc => ?_) upd_eq, hu.setA (by omega) (by omega) (by omega) (by omega)⟩
  exact upd_eq
theorem ntW (hr : RdU u r) (hu : UOk u) {a b d : Nat} (ha : a < 3) (hb : b < 16) (hd : d < 4) : ∃ s', f_X4_paint r.2.1 (nI a) (nI b) (nI d) = some s' ∧ RdU (set2 u (14 + 4 * (16 * a + b)) (d + 1) 100) (r.1, s', r.2.2) ∧ UOk (set2 u (14 + 4 * (16 * a + b)) (d + 1) 100) := by
  rw [paint_u hr.2.1 (by omega) (show 16 * a + b < 48 by omega)]
  refine ⟨_, rfl, hr.setW (by omega) rfl rfl (fun j hj hji => upd_ne hji) (fun j hj hji => upd_ne hji) (fun hc => ?_) upd_eq, hu.setW (by omega) (by omega) (by omega) (by omega)⟩
  exact upd_eq
theorem ntD (hr : RdU u r) (hu : UOk u) {a b d : Nat} (ha : a < 2) (hb : b < 16) (hd : d < 4) (h0 : d ≠ 0) : ∃ s', f_X4_paint r.2.2.1 (nI a) (nI b) (nI d) = some s' ∧ RdU (set2 u (204 + 2 * (16 * a + b)) d 100) (r.1, r.2.1, s', r.2.2.2) ∧ UOk (set2 u (204 + 2 * (16 * a + b)) d 100) := by
  rw [paint_u hr.2.2.1 (by omega) (show 16 * a + b < 32 by omega)]
  refine ⟨_, rfl, hr.setD (by omega) rfl rfl (fun j hj hji => upd_ne hji) (fun j hj hji => upd_ne hji) (fun hc => ?_) upd_eq, hu.setD (by omega) (by omega) (by omega) (by omega)⟩
  exact upd_eq
/-- all of a sign is lost -/
theorem lsU_0 {p : Nat} (h1 : u (p + 1) ≤ 100) (h2 : u p = 0 ↔ u (p + 1) = 0) : ∀ k, lsU u p 100 k = set2 u p 0 0 k := by
  intro k
  unfold lsU set2
  by_cases e0 : u p = 0
  · rw [if_pos e0]
    by_cases e1 : k = p
    · rw [if_pos e1, e1, e0]
    · rw [if_neg e1]
      by_cases e2 : k = p + 1
      · rw [if_pos e2, e2, h2.mp e0]
      · rw [if_neg e2]
  · rw [if_neg e0]
    by_cases e1 : k = p
    · simp only [if_pos e1, show u (p + 1) - 100 = 0 by omega, ↓reduceIte]
    · simp only [if_neg e1, show u (p + 1) - 100 = 0 by omega]
end LS
section LP
variable {r : TX3s} {y : TX6s}
theorem put_A (h : RZ r y.1) {a b d : Nat} (ha : a < 3) (hb : b < 16) (hd : d < 3) : ∃ v r' z', f_X3_putArrow r (nI a) (nI b) (nI d) = some (v, r') ∧ f_X6_signs y (nI (12 + 4 * (16 * a + b))) (nI d + 1) = some (nI d + 1, (z', y.2)) ∧ f_X6_cellSigns (z', y.2) 0 = some v ∧ RZ r' z' := by
  obtain ⟨u, hr, hz, hu, c6, c7, c8, c9⟩ := h
  obtain ⟨s', e1, hr', hu'⟩ := ntA hr hu ha hb hd
  obtain ⟨z', e2, hz', hk⟩ := signs_s (y := y) hz (p := 12 + 4 * (16 * a + b)) (c := d + 1) (by omega) (by omega) (by omega)
  rw [if_neg (by omega)] at hz'
  refine ⟨nI (sumN (fun i => if set2 u (12 + 4 * (16 * a + b)) (d + 1) 100 (12 + 4 * i) = 0 then 0 else 1) 48), (s', r.2), z', ?_, ?_, ?_, ⟨_, hr', hz', hu', ?_, ?_, ?_, ?_⟩⟩
  · unfold f_X3_putArrow
    simp only [e1, Option.bind_some, count_u hr'.1 hu'.1 (show 48 ≤ 48 by omega)]
  · rw [nI_1]; exact e2
  · have := cellSigns_u (y := (z', y.2)) hz' (o := 0) (Or.inl rfl) (fun i hi => by rw [show 12 + 0 + 4 * i = 12 + 4 * i by omega]; have := (hu'.1 i hi).2.2; omega)
    exact this
  · rw [hk 6 (by omega)]; exact c6
  · rw [hk 7 (by omega)]; exact c7
  · rw [hk 8 (by omega)]; exact c8
  · rw [hk 9 (by omega)]; exact c9
theorem put_W (h : RZ r y.1) {a b d : Nat} (ha : a < 3) (hb : b < 16) (hd : d < 4) : ∃ v r' z', f_X3_putWord r (nI a) (nI b) (nI d) = some (v, r') ∧ f_X6_signs y (nI (12 + 4 * (16 * a + b)) + 2) (nI d + 1) = some (nI d + 1, (z', y.2)) ∧ f_X6_cellSigns (z', y.2) 2 = some v ∧ RZ r' z' := by
  obtain ⟨u, hr, hz, hu, c6, c7, c8, c9⟩ := h
  obtain ⟨s', e1, hr', hu'⟩ := ntW hr hu ha hb hd
  obtain ⟨z', e2, hz', hk⟩ := signs_s (y := y) hz (p := 14 + 4 * (16 * a + b)) (c := d + 1) (by omega) (by omega) (by omega)
  rw [if_neg (by omega)] at hz'
  refine ⟨nI (sumN (fun i => if set2 u (14 + 4 * (16 * a + b)) (d + 1) 100 (14 + 4 * i) = 0 then 0 else 1) 48), (r.1, s', r.2.2), z', ?_, ?_, ?_, ⟨_, hr', hz', hu', ?_, ?_, ?_, ?_⟩⟩
  · unfold f_X3_putWord
    simp only [e1, Option.bind_some, count_u hr'.2.1 hu'.2.1 (show 48 ≤ 48 by omega)]
  · rw [nI_1, li2, nI_add, show 12 + 4 * (16 * a + b) + 2 = 14 + 4 * (16 * a + b) by omega]; exact e2
  · have := cellSigns_u (y := (z', y.2)) hz' (o := 2) (Or.inr rfl) (fun i hi => by rw [show 12 + 2 + 4 * i = 14 + 4 * i by omega]; have := (hu'.2.1 i hi).2.2; omega)
    exact this
  · rw [hk 6 (by omega)]; exact c6
  · rw [hk 7 (by omega)]; exact c7
  · rw [hk 8 (by omega)]; exact c8
  · rw [hk 9 (by omega)]; exact c9
theorem rd_ext {u u' : Nat → Nat} (h : ∀ k, u k = u' k) : u = u' := funext h
theorem put_D (h : RZ r y.1) {a b d : Nat} (ha : a < 2) (hb : b < 16) (hd : d < 4) : ∃ r' z', f_X3_putDash r (nI a) (nI b) (nI d) = some (y.1 (204 + 2 * (16 * a + b)), r') ∧ f_X6_signs y (nI (204 + 2 * (16 * a + b))) (nI d) = some (nI d, (z', y.2)) ∧ RZ r' z' := by
  obtain ⟨u, hr, hz, hu, c6, c7, c8, c9⟩ := h
  obtain ⟨z', e2, hz', hk⟩ := signs_s (y := y) hz (p := 204 + 2 * (16 * a + b)) (c := d) (by omega) (by omega) (by omega)
  unfold f_X3_putDash f_X3_dashAt
  rw [dashAt_u hr hu ha hb, hz.at (show 204 + 2 * (16 * a + b) < 268 by omega) (Or.inr (by omega))]
  simp only [Option.bind_some, eq0 (show d < 2 ^ 31 by omega)]
  by_cases h0 : d = 0
  · subst h0
    obtain ⟨s', e1, hr', hu'⟩ := lsD hr hu ha hb (show 100 ≤ 1000 by omega)
    have h9 := hu.2.2.1 _ (show 16 * a + b < 32 by omega)
    rw [rd_ext (lsU_0 h9.1 h9.2.1)] at hr' hu'
    unfold f_X4_remove
    rw [li100, e1]
    refine ⟨_, z', rfl, e2, ⟨_, hr', hz', hu', ?_, ?_, ?_, ?_⟩⟩
    · rw [hk 6 (by omega)]; exact c6
    · rw [hk 7 (by omega)]; exact c7
    · rw [hk 8 (by omega)]; exact c8
    · rw [hk 9 (by omega)]; exact c9
  · obtain ⟨s', e1, hr', hu'⟩ := ntD hr hu ha hb hd h0
    rw [if_neg h0] at hz'
    rw [if_neg h0, e1]
    refine ⟨_, z', rfl, e2, ⟨_, hr', hz', hu', ?_, ?_, ?_, ?_⟩⟩
    · rw [hk 6 (by omega)]; exact c6
    · rw [hk 7 (by omega)]; exact c7
    · rw [hk 8 (by omega)]; exact c8
    · rw [hk 9 (by omega)]; exact c9
/-- a cell is cleared -/
theorem clear_u (h : RZ r y.1) {a b : Nat} (ha : a < 3) (hb : b < 16) : ∃ v r' z', f_X3_clearCell r (nI a) (nI b) = some (v, r') ∧ (if (nI (12 + 4 * (16 * a + b))) < 0 ∨ 268 ≤ (nI (12 + 4 * (16 * a + b))).toNatClampNeg then none else if y.1 (nI (12 + 4 * (16 * a + b))).toNatClampNeg ≤ 0 then f_X6_erase_j34 y (nI (12 + 4 * (16 * a + b))) 0 else f_X6_erase_j34 y (nI (12 + 4 * (16 * a + b))) 1) = some (v, (z', y.2)) ∧ RZ r' z' := by
  obtain ⟨u, hr, hz, hu, c6, c7, c8, c9⟩ := h
  have h9 := hu.1 _ (show 16 * a + b < 48 by omega)
  obtain ⟨s1, e1, hr1, hu1⟩ := lsA hr hu ha hb (show 100 ≤ 1000 by omega)
  rw [rd_ext (lsU_0 h9.1 h9.2.1)] at hr1 hu1
  have h8 := hu.2.1 _ (show 16 * a + b < 48 by omega)
  have q0 : set2 u (12 + 4 * (16 * a + b)) 0 0 (14 + 4 * (16 * a + b)) = u (14 + 4 * (16 * a + b)) := set2_n (by omega) (by omega)
  have q1 : set2 u (12 + 4 * (16 * a + b)) 0 0 (14 + 4 * (16 * a + b) + 1) = u (14 + 4 * (16 * a + b) + 1) := set2_n (by omega) (by omega)
  obtain ⟨s2, e2, hr2, hu2⟩ := lsW hr1 hu1 ha hb (show 100 ≤ 1000 by omega)
  rw [rd_ext (lsU_0 (by rw [q1]; exact h8.1) (by rw [q0, q1]; exact h8.2.1))] at hr2 hu2
  obtain ⟨z1, e3, hz1, hk1⟩ := signs_s (y := y) hz (p := 12 + 4 * (16 * a + b)) (c := 0) (by omega) (by omega) (by omega)
  obtain ⟨z2, e4, hz2, hk2⟩ := signs_s (y := (z1, y.2)) hz1 (p := 14 + 4 * (16 * a + b)) (c := 0) (by omega) (by omega) (by omega)
  rw [if_pos rfl] at hz2
  refine ⟨(if u (12 + 4 * (16 * a + b)) = 0 then 0 else 1) + (if u (14 + 4 * (16 * a + b)) = 0 then 0 else 1), _, z2, ?_, ?_, ⟨_, hr2, hz2, hu2, ?_, ?_, ?_, ?_⟩⟩
  · unfold f_X3_clearCell f_X4_remove
    rw [q0, q1] at e2
    simp only [li100, e1, e2, Option.bind_some, show u (12 + 4 * (16 * a + b) + 1) - 100 = 0 by omega, show u (14 + 4 * (16 * a + b) + 1) - 100 = 0 by omega, ↓reduceIte]
  · have hj : ∀ w : Int32, f_X6_erase_j34 y (nI (12 + 4 * (16 * a + b))) w = some (w + (if u (14 + 4 * (16 * a + b)) = 0 then 0 else 1), (z2, y.2)) := by
      intro w
      unfold f_X6_erase_j34 f_X6_erase_j50
      simp only [show (2 : Int32) = nI 2 from rfl, nI_add, show 12 + 4 * (16 * a + b) + 2 = 14 + 4 * (16 * a + b) by omega, nI_clamp (show 14 + 4 * (16 * a + b) < 2 ^ 31 by omega), g_in2 (show 14 + 4 * (16 * a + b) < 268 by omega) (by omega), ↓reduceIte, hz.at (show 14 + 4 * (16 * a + b) < 268 by omega) (Or.inr (by omega)), le0 (show u (14 + 4 * (16 * a + b)) < 2 ^ 31 by omega)]
      rw [show (0 : Int32) = nI 0 from rfl, e3]
      simp only [Option.bind_some, e4]
      by_cases e0 : u (14 + 4 * (16 * a + b)) = 0
      · rw [if_pos e0, if_pos e0]
      · rw [if_neg e0, if_neg e0]
    simp only [hj, nI_clamp (show 12 + 4 * (16 * a + b) < 2 ^ 31 by omega), g_in2 (show 12 + 4 * (16 * a + b) < 268 by omega) (by omega), ↓reduceIte, hz.at (show 12 + 4 * (16 * a + b) < 268 by omega) (Or.inr (by omega)), le0 (show u (12 + 4 * (16 * a + b)) < 2 ^ 31 by omega)]
    by_cases e0 : u (12 + 4 * (16 * a + b)) = 0
    · rw [if_pos e0, if_pos e0]
    · rw [if_neg e0, if_neg e0]
  · rw [hk2 6 (by omega)]; exact c6.trans (hk1 6 (by omega)).symm
  · rw [hk2 7 (by omega)]; exact c7.trans (hk1 7 (by omega)).symm
  · rw [hk2 8 (by omega)]; exact c8.trans (hk1 8 (by omega)).symm
  · rw [hk2 9 (by omega)]; exact c9.trans (hk1 9 (by omega)).symm
end LP
