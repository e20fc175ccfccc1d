/-! a day passes -/
def Dr (r0 : TX3s) (y0 : TX6s) (r : TX3s) (y : TX6s) : Prop := RZc r y.1 ∧ r.2.2.2.2.2.2 = r0.2.2.2.2.2.2 ∧ y.2 = y0.2 ∧ ∀ k, 6 ≤ k → k < 12 → y.1 k = y0.1 k
section LD
variable {r r0 : TX3s} {y y0 : TX6s}
theorem day_line (h : Dr r0 y0 r y) {l b : Nat} (hl : l < 2) (hb : b < 16) : ∃ w r' y', (∀ a4 x4 k4 k acc, f_X3_passDay_l59 k4 (a4, nI b, x4) k (acc, nI l, r) = k (acc + w, nI (l + 1), r')) ∧ (∀ a4 x4 k4 k acc, f_X6_day_l61 k4 (a4, nI b, x4) k (acc, nI l, y) = k (acc + w, nI (l + 1), y')) ∧ Dr r0 y0 r' y' := by
  obtain ⟨⟨u, hr, hz, hu⟩, h1, h2, h3⟩ := h
  have t0 := hu.2.2.2.2.2.1 l (by omega)
  have t1 := hu.2.2.2.2.2.1 (l + 1) (by omega)
  rw [show 2 + (l + 1) = 3 + l by omega] at t1
  have g9 := hu.2.2.1 _ (show 16 * l + b < 32 by omega)
  obtain ⟨s', e1, hr', hu'⟩ := lsD hr hu hl hb (show (u (2 + l) + u (3 + l)) / 2 ≤ 1000 by omega)
  obtain ⟨z', e2, hz', hk⟩ := loses_s (y := y) hz (p := 204 + 2 * (16 * l + b)) (l := (u (2 + l) + u (3 + l)) / 2) (by omega) (by omega) g9.1 (by omega) g9.2.1 (by omega)
  refine ⟨(if u (204 + 2 * (16 * l + b)) = 0 then 0 else if u (204 + 2 * (16 * l + b) + 1) - (u (2 + l) + u (3 + l)) / 2 = 0 then 1 else 0), (r.1, r.2.1, s', r.2.2.2), (z', y.2), ?_, ?_, ⟨⟨_, hr', hz', hu'⟩, h1, h2, fun k h6 h12 => (hk k h12).trans (h3 k h6 h12)⟩⟩
  · intro a4 x4 k4 k acc
    unfold f_X3_passDay_l59
    simp only [nI_1, show (2 : Int32) = nI 2 from rfl, leN (show 2 < 2 ^ 31 by omega) (show l < 2 ^ 31 by omega), show ¬ 2 ≤ l by omega, ↓reduceIte, nI_clamp (show l < 2 ^ 31 by omega), nI_clamp (show l + 1 < 2 ^ 31 by omega), g_in2 (show l < 3 by omega) (by omega), g_in2 (show l + 1 < 3 by omega) (by omega), hr.2.2.2.1 l (by omega), hr.2.2.2.1 (l + 1) (by omega), show 2 + (l + 1) = 3 + l by omega, nI_add, pk_div (show u (2 + l) + u (3 + l) < 2 ^ 31 by omega) (show 0 < 2 by omega) (show 2 < 2 ^ 31 by omega), e1, Option.bind_some]
  · intro a4 x4 k4 k acc
    unfold f_X6_day_l61
    simp only [lineAt_n, nI_1, show (2 : Int32) = nI 2 from rfl, leN (show 2 < 2 ^ 31 by omega) (show l < 2 ^ 31 by omega), show ¬ 2 ≤ l by omega, ↓reduceIte, nI_add, nI_clamp (show 2 + l < 2 ^ 31 by omega), nI_clamp (show 2 + l + 1 < 2 ^ 31 by omega), g_in2 (show 2 + l < 268 by omega) (by omega), g_in2 (show 2 + l + 1 < 268 by omega) (by omega), hz.at (show 2 + l < 268 by omega) (Or.inl (by omega)), hz.at (show 3 + l < 268 by omega) (Or.inl (by omega)), show 2 + l + 1 = 3 + l by omega, nI_clamp (show 3 + l < 2 ^ 31 by omega), g_in2 (show 3 + l < 268 by omega) (by omega), pk_div (show u (2 + l) + u (3 + l) < 2 ^ 31 by omega) (show 0 < 2 by omega) (show 2 < 2 ^ 31 by omega), e2, Option.bind_some]
theorem day_cell (h : Dr r0 y0 r y) {l b : Nat} (hl : l < 3) (hb : b < 16) : ∃ w r' y', (∀ a4 x4 k4 k acc, f_X3_passDay_l12 k4 (a4, nI b, x4) k (acc, nI l, r) = k (acc + w, nI (l + 1), r')) ∧ (∀ a4 x4 k4 k acc, f_X6_day_l12 k4 (a4, nI b, x4) k (acc, nI l, y) = k (acc + w, nI (l + 1), y')) ∧ Dr r0 y0 r' y' := by
  obtain ⟨⟨u, hr, hz, hu⟩, h1, h2, h3⟩ := h
  have t0 := hu.2.2.2.2.2.1 l hl
  have hls : lsN u l b ≤ 20 := by unfold lsN; split <;> omega
  have g9 := hu.1 _ (show 16 * l + b < 48 by omega)
  have g8 := hu.2.1 _ (show 16 * l + b < 48 by omega)
  obtain ⟨s1, e1, hr1, hu1⟩ := lsA hr hu hl hb (show lsN u l b ≤ 1000 by omega)
  obtain ⟨z1, e2, hz1, hk1⟩ := loses_s (y := y) hz (p := 12 + 4 * (16 * l + b)) (l := lsN u l b) (by omega) (by omega) g9.1 (by omega) g9.2.1 (by omega)
  have q0 : lsU u (12 + 4 * (16 * l + b)) (lsN u l b) (14 + 4 * (16 * l + b)) = u (14 + 4 * (16 * l + b)) := lsU_n (by omega) (by omega)
  have q1 : lsU u (12 + 4 * (16 * l + b)) (lsN u l b) (14 + 4 * (16 * l + b) + 1) = u (14 + 4 * (16 * l + b) + 1) := lsU_n (by omega) (by omega)
  obtain ⟨s2, e3, hr2, hu2⟩ := lsW hr1 hu1 hl hb (show lsN u l b ≤ 1000 by omega)
  obtain ⟨z2, e4, hz2, hk2⟩ := loses_s (y := (z1, y.2)) hz1 (p := 14 + 4 * (16 * l + b)) (l := lsN u l b) (by omega) (by omega) (by rw [q1]; exact g8.1) (by rw [q0]; omega) (by rw [q0, q1]; exact g8.2.1) (by omega)
  rw [q0, q1] at e3 e4
  have hL := lossAt_u hr hu hl hb
  have hL6 := lossOf_u hz hu hl hb
  refine ⟨(if u (12 + 4 * (16 * l + b)) = 0 then 0 else if u (12 + 4 * (16 * l + b) + 1) - lsN u l b = 0 then 1 else 0) + (if u (14 + 4 * (16 * l + b)) = 0 then 0 else if u (14 + 4 * (16 * l + b) + 1) - lsN u l b = 0 then 1 else 0), (s1, s2, r.2.2), (z2, y.2), ?_, ?_, ⟨⟨_, hr2, hz2, hu2⟩, h1, h2, fun k h6 h12 => (hk2 k h12).trans ((hk1 k h12).trans (h3 k h6 h12))⟩⟩
  · intro a4 x4 k4 k acc
    unfold f_X3_passDay_l12
    simp only [nI_1, show (3 : Int32) = nI 3 from rfl, leN (show 3 < 2 ^ 31 by omega) (show l < 2 ^ 31 by omega), show ¬ 3 ≤ l by omega, ↓reduceIte, hL, Option.bind_some, e1, e3]
    rw [Int32.add_comm (if u (14 + 4 * (16 * l + b)) = 0 then (0 : Int32) else _)]
  · intro a4 x4 k4 k acc
    unfold f_X6_day_l12
    simp only [nI_1, show (3 : Int32) = nI 3 from rfl, show (2 : Int32) = nI 2 from rfl, leN (show 3 < 2 ^ 31 by omega) (show l < 2 ^ 31 by omega), show ¬ 3 ≤ l by omega, ↓reduceIte, hL6, Option.bind_some, cellAt_n, nI_add, show 12 + 4 * (16 * l + b) + 2 = 14 + 4 * (16 * l + b) by omega, e2, e4]
/-- the cells of a mile, then its lines -/
def dayR (r0 : TX3s) (y0 : TX6s) (j : Nat) (a : Int32 × Int32 × TX3s) (c : Int32 × Int32 × TX6s) : Prop := a.1 = c.1 ∧ a.2.1 = nI j ∧ c.2.1 = nI j ∧ Dr r0 y0 a.2.2 c.2.2
theorem day_lines (h : Dr r0 y0 r y) {b : Nat} (hb : b < 16) (acc a4 a4' : Int32) (x4 : TX3s) (x4' : TX6s) (k : (Int32 × Int32 × TX3s) → Option (Int32 × TX3s)) (k' : (Int32 × Int32 × TX6s) → Option (Int32 × TX6s)) : ∃ acc' r' y', lpN (f_X3_passDay_l59 k (a4, nI b, x4)) 3000 (acc, 0, r) = k (acc', nI (b + 1), r') ∧ lpN (f_X6_day_l61 k' (a4', nI b, x4')) 3000 (acc, 0, y) = k' (acc', nI (b + 1), y') ∧ Dr r0 y0 r' y' := by
  obtain ⟨⟨a1, a2, a3⟩, ⟨c1, c2, c3⟩, m, m', ⟨e1, e2, e3, e4⟩, e5, e6⟩ := lp_for2 (f_X3_passDay_l59 k (a4, nI b, x4)) (f_X6_day_l61 k' (a4', nI b, x4')) (dayR r0 y0) 2 (by
    rintro j hj ⟨a1, a2, a3⟩ ⟨c1, c2, c3⟩ ⟨e1, e2, e3, hD⟩
    simp only at e1 e2 e3 hD
    subst e1 e2 e3
    obtain ⟨w, r', y', e1, e2, e3⟩ := day_line hD hj hb
    exact ⟨_, _, ⟨rfl, rfl, rfl, e3⟩, fun k2 => e1 _ _ _ k2 a1, fun k2 => e2 _ _ _ k2 a1⟩) (a := (acc, 0, r)) (c := (acc, 0, y)) ⟨rfl, rfl, rfl, h⟩ (by omega)
  simp only at e1 e2 e3 e4
  subst e1 e2 e3
  refine ⟨a1, a3, c3, ?_, ?_, e4⟩
  · rw [e5]
    unfold f_X3_passDay_l59
    rw [if_pos (show (2 : Int32) ≤ nI 2 by decide)]
    exact congrArg (fun z => k (a1, z, a3)) (nI_1 b)
  · rw [e6]
    unfold f_X6_day_l61
    rw [if_pos (show (2 : Int32) ≤ nI 2 by decide)]
    exact congrArg (fun z => k' (a1, z, c3)) (nI_1 b)
theorem day_mile (h : Dr r0 y0 r y) {b : Nat} (hb : b < 16) (acc : Int32) (k : (Int32 × Int32 × TX3s) → Option (Int32 × TX3s)) (k' : (Int32 × Int32 × TX6s) → Option (Int32 × TX6s)) : ∃ acc' r' y', f_X3_passDay_l4 k (acc, nI b, r) = k (acc', nI (b + 1), r') ∧ f_X6_day_l4 k' (acc, nI b, y) = k' (acc', nI (b + 1), y') ∧ Dr r0 y0 r' y' := by
  obtain ⟨⟨a1, a2, a3⟩, ⟨c1, c2, c3⟩, m, m', ⟨e1, e2, e3, e4⟩, e5, e6⟩ := lp_for2 (f_X3_passDay_l12 k (acc, nI b, r)) (f_X6_day_l12 k' (acc, nI b, y)) (dayR r0 y0) 3 (by
    rintro j hj ⟨a1, a2, a3⟩ ⟨c1, c2, c3⟩ ⟨e1, e2, e3, hD⟩
    simp only at e1 e2 e3 hD
    subst e1 e2 e3
    obtain ⟨w, r', y', e1, e2, e3⟩ := day_cell hD hj hb
    exact ⟨_, _, ⟨rfl, rfl, rfl, e3⟩, fun k2 => e1 _ _ _ k2 a1, fun k2 => e2 _ _ _ k2 a1⟩) (a := (acc, 0, r)) (c := (acc, 0, y)) ⟨rfl, rfl, rfl, h⟩ (by omega)
  simp only at e1 e2 e3 e4
  subst e1 e2 e3
  obtain ⟨acc', r', y', q1, q2, q3⟩ := day_lines e4 hb a1 acc acc r y k k'
  refine ⟨acc', r', y', ?_, ?_, q3⟩
  · rw [← q1]
    unfold f_X3_passDay_l4
    rw [if_neg (by show ¬ (16 : Int32) ≤ nI b; rw [li16, nI_leI (by omega) (by omega)]; omega), e5]
    unfold f_X3_passDay_l12
    rw [if_pos (show (3 : Int32) ≤ nI 3 by decide)]
  · rw [← q2]
    unfold f_X6_day_l4
    rw [if_neg (by show ¬ (16 : Int32) ≤ nI b; rw [li16, nI_leI (by omega) (by omega)]; omega), e6]
    unfold f_X6_day_l12
    rw [if_pos (show (3 : Int32) ≤ nI 3 by decide)]
/-- a day: the reference counts it, the class counts its days at the end -/
theorem day_u (h : RZc r y.1) : ∃ w r' z', f_X3_passDay r = some (w, r') ∧ f_X6_day y = some (w, (z', y.2)) ∧ RZc r' z' ∧ r'.2.2.2.2.2.2 = r.2.2.2.2.2.2 ∧ z' 6 = y.1 6 + 1 ∧ z' 7 = y.1 7 ∧ z' 8 = y.1 8 ∧ z' 9 = y.1 9 + w := by
  unfold f_X3_passDay f_X6_day
  refine lpN_rel f_X3_passDay_l4 f_X6_day_l4 (fun a c => a.1 = c.1 ∧ ∃ j, j ≤ 16 ∧ a.2.1 = nI j ∧ c.2.1 = nI j ∧ Dr r y a.2.2 c.2.2) (fun a _ => 16 - a.2.1.toNatClampNeg) (fun r1 r2 => ∃ w r' z', r1 = some (w, r') ∧ r2 = some (w, (z', y.2)) ∧ RZc r' z' ∧ r'.2.2.2.2.2.2 = r.2.2.2.2.2.2 ∧ z' 6 = y.1 6 + 1 ∧ z' 7 = y.1 7 ∧ z' 8 = y.1 8 ∧ z' 9 = y.1 9 + w) ?_ 3000 (0, 0, r) (0, 0, y) ⟨rfl, 0, by omega, rfl, rfl, h, rfl, rfl, fun _ _ _ => rfl⟩ (by omega)
  rintro k1 k2 ⟨a1, a2, a3⟩ ⟨c1, c2, c3⟩ ⟨e1, j, hj, e2, e3, e4⟩ hk
  simp only at e1 e2 e3 e4
  subst e1 e2 e3
  by_cases h16 : j = 16
  · subst h16
    obtain ⟨⟨u, hr, hz, hu⟩, h1, h2, h3⟩ := e4
    unfold f_X3_passDay_l4 f_X6_day_l4
    rw [if_pos (show (16 : Int32) ≤ nI 16 by decide), if_pos (show (16 : Int32) ≤ nI 16 by decide), if_neg (show ¬ ((6 : Int32) < 0 ∨ 268 ≤ (6 : Int32).toNatClampNeg) by decide), if_neg (show ¬ ((6 : Int32) < 0 ∨ 268 ≤ (6 : Int32).toNatClampNeg) by decide), if_neg (show ¬ ((9 : Int32) < 0 ∨ 268 ≤ (9 : Int32).toNatClampNeg) by decide), if_neg (show ¬ ((9 : Int32) < 0 ∨ 268 ≤ (9 : Int32).toNatClampNeg) by decide)]
    refine ⟨a1, a3, _, rfl, congrArg (fun z => some (a1, (_, z))) h2, ⟨u, hr, ?_, hu⟩, h1, ?_, ?_, ?_, ?_⟩
    · intro k hk1 hk2
      show upd (upd c3.1 6 _) 9 _ k = _
      rw [upd_ne (by omega), upd_ne (by omega)]
      exact hz k hk1 hk2
    · show upd (upd c3.1 6 (c3.1 6 + 1)) 9 _ 6 = _
      rw [upd_ne (by omega), upd_eq, h3 6 (by omega) (by omega)]
    · show upd (upd c3.1 6 (c3.1 6 + 1)) 9 _ 7 = _
      rw [upd_ne (by omega), upd_ne (by omega), h3 7 (by omega) (by omega)]
    · show upd (upd c3.1 6 (c3.1 6 + 1)) 9 _ 8 = _
      rw [upd_ne (by omega), upd_ne (by omega), h3 8 (by omega) (by omega)]
    · show upd (upd c3.1 6 (c3.1 6 + 1)) 9 (upd c3.1 6 (c3.1 6 + 1) 9 + a1) 9 = _
      rw [upd_eq, upd_ne (by omega), h3 9 (by omega) (by omega)]
  · obtain ⟨acc', r', y', q1, q2, q3⟩ := day_mile e4 (show j < 16 by omega) a1 k1 k2
    rw [q1, q2]
    refine hk _ _ ⟨rfl, j + 1, by omega, rfl, rfl, q3⟩ ?_
    show 16 - (nI (j + 1)).toNatClampNeg < 16 - (nI j).toNatClampNeg
    rw [nI_clamp (by omega), nI_clamp (by omega)]
    omega
/-- some days -/
theorem days_u (h : RZ r y.1) {n : Nat} (hn : n ≤ 30) : ∃ w r' z', f_X3_passDays r (nI n) = some (w, r') ∧ lpN (f_X6_pass_l21 (nI n)) 3000 (0, 0, y) = some (w, (z', y.2)) ∧ RZ r' z' := by
  obtain ⟨u, hr, hz, hu, c6, c7, c8, c9⟩ := h
  unfold f_X3_passDays
  obtain ⟨⟨a1, a2, a3⟩, ⟨c1, c2, c3⟩, m, m', ⟨e1, e2, e3, e4, e5, e6, e7, e8, e9, e10⟩, q1, q2⟩ := lp_for2 (f_X3_passDays_l4 (nI n)) (f_X6_pass_l21 (nI n)) (fun j a c => a.1 = c.1 ∧ a.2.1 = nI j ∧ c.2.1 = nI j ∧ RZc a.2.2 c.2.2.1 ∧ a.2.2.2.2.2.2.2.2 = r.2.2.2.2.2.2 ∧ c.2.2.2 = y.2 ∧ c.2.2.1 6 = y.1 6 + nI j ∧ c.2.2.1 7 = y.1 7 ∧ c.2.2.1 8 = y.1 8 ∧ c.2.2.1 9 = y.1 9 + a.1) n (by
    rintro j hj ⟨a1, a2, a3⟩ ⟨c1, c2, c3⟩ ⟨e1, e2, e3, e4, e5, e6, e7, e8, e9, e10⟩
    simp only at e1 e2 e3 e4 e5 e6 e7 e8 e9 e10
    subst e1 e2 e3
    obtain ⟨w, r', z', q1, q2, q3, q4, q5, q6, q7, q8⟩ := day_u (y := c3) e4
    refine ⟨(a1 + w, nI (j + 1), r'), (a1 + w, nI (j + 1), (z', c3.2)), ⟨rfl, rfl, rfl, q3, q4.trans e5, e6, ?_, q6.trans e8, q7.trans e9, ?_⟩, ?_, ?_⟩
    · show z' 6 = _
      rw [q5, e7, Int32.add_assoc, nI_1]
    · show z' 9 = _
      rw [q8, e10, Int32.add_assoc]
    · intro k
      unfold f_X3_passDays_l4
      rw [if_neg (by show ¬ nI n ≤ nI j; rw [nI_leI (by omega) (by omega)]; omega)]
      simp only [q1, Option.bind_some, nI_1]
    · intro k
      unfold f_X6_pass_l21
      rw [if_neg (by show ¬ nI n ≤ nI j; rw [nI_leI (by omega) (by omega)]; omega)]
      simp only [q2, Option.bind_some, nI_1]) (a := (0, 0, r)) (c := (0, 0, y)) ⟨rfl, rfl, rfl, ⟨u, hr, hz, hu⟩, rfl, rfl, (Int32.add_zero _).symm, rfl, rfl, (Int32.add_zero _).symm⟩ (by omega)
  simp only at e1 e2 e3 e4 e5 e6 e7 e8 e9 e10
  subst e1 e2 e3
  obtain ⟨u', hr', hz', hu'⟩ := e4
  have f6 : a3.2.2.2.2.2.2.1 = r.2.2.2.2.2.2.1 := congrArg (fun z => z.1) e5
  have f7 : a3.2.2.2.2.2.2.2.1 = r.2.2.2.2.2.2.2.1 := congrArg (fun z => z.2.1) e5
  have f8 : a3.2.2.2.2.2.2.2.2.1 = r.2.2.2.2.2.2.2.2.1 := congrArg (fun z => z.2.2.1) e5
  have f9 : a3.2.2.2.2.2.2.2.2.2 = r.2.2.2.2.2.2.2.2.2 := congrArg (fun z => z.2.2.2) e5
  refine ⟨a1, (a3.1, a3.2.1, a3.2.2.1, a3.2.2.2.1, a3.2.2.2.2.1, a3.2.2.2.2.2.1, a3.2.2.2.2.2.2.1 + nI n, a3.2.2.2.2.2.2.2.1, a3.2.2.2.2.2.2.2.2.1, a3.2.2.2.2.2.2.2.2.2 + a1), c3.1, ?_, ?_, ⟨u', hr', hz', hu', ?_, ?_, ?_, ?_⟩⟩
  · rw [q1]
    unfold f_X3_passDays_l4
    rw [if_pos (show nI n ≤ nI n from Int32.le_refl _)]
  · rw [q2]
    unfold f_X6_pass_l21
    rw [if_pos (show nI n ≤ nI n from Int32.le_refl _)]
    show some (a1, c3.1, c3.2) = _
    rw [e6]
  · show a3.2.2.2.2.2.2.1 + nI n = c3.1 6
    rw [e7, f6, c6]
  · show a3.2.2.2.2.2.2.2.1 = c3.1 7
    rw [e8, f7, c7]
  · show a3.2.2.2.2.2.2.2.2.1 = c3.1 8
    rw [e9, f8, c8]
  · show a3.2.2.2.2.2.2.2.2.2 + a1 = c3.1 9
    rw [e10, f9, c9]
end LD
