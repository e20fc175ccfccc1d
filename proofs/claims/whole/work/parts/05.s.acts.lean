/-! the program's changing methods -/
section MA
variable {x : TX5s} {y : TX6s}
theorem m_arrow (h : Rel x y) (p q c : Int32) : ∃ v x' y', f_X5_arrow x p q c = some (v, x') ∧ f_X6_arrow y p q c = some (v, y') ∧ Rel x' y' := by
  obtain ⟨u, hr, hz, hu, _⟩ := h.1
  unfold f_X5_arrow f_X6_arrow
  rcases arrowError_u hr hz hu p q c with ⟨a, b, d, ha, hb, hd, rfl, rfl, rfl, e1, e2⟩ | ⟨v, hv, e1, e2⟩
  · rw [e1, e2]
    obtain ⟨h', p', c', q1, q2, q3⟩ := recorded h
    obtain ⟨v, r', z', g1, g2, g3, g4⟩ := put_A (y := setP y p' c') h.1 ha hb hd
    simp only [Option.bind_some, ↓reduceIte, q1, q2, g1, cellAt_n, g2, g3, show (0 : Int32) ≤ 0 from Int32.le_refl _]
    exact ⟨_, _, _, rfl, rfl, q3.road g4⟩
  · rw [e1, e2]
    simp only [Option.bind_some]
    rw [if_neg (fun z => by rw [z] at hv; exact absurd hv (by decide)), if_neg (fun z => Int32.not_le.mpr hv z)]
    exact ⟨_, _, _, rfl, rfl, h⟩
theorem m_word (h : Rel x y) (p q c : Int32) : ∃ v x' y', f_X5_word x p q c = some (v, x') ∧ f_X6_word y p q c = some (v, y') ∧ Rel x' y' := by
  unfold f_X5_word f_X6_word f_X6_whyNotWord
  rcases cell_cases p q with ⟨a, b, ha, hb, rfl, rfl, e⟩ | e
  · rcases in_cases c 0 3 li0 li3 (by omega) (by omega) with ⟨d, _, hd, rfl, e2⟩ | e2
    · rw [placeError_0 (by rw [place3]; exact e) e2 (by decide), e, e2]
      obtain ⟨h', p', c', q1, q2, q3⟩ := recorded h
      obtain ⟨v, r', z', g1, g2, g3, g4⟩ := put_W (y := setP y p' c') h.1 ha hb (show d < 4 by omega)
      simp only [Option.bind_some, show ¬ (1 : Int32) = 0 by decide, ↓reduceIte, q1, q2, g1, cellAt_n, g2, g3, show (0 : Int32) ≤ 0 from Int32.le_refl _]
      exact ⟨_, _, _, rfl, rfl, q3.road g4⟩
    · rw [placeError_2 (by rw [place3]; exact e) e2 (by decide), e, e2]
      exact ⟨_, _, _, rfl, rfl, h⟩
  · rw [placeError_1 (by rw [place3]; exact e), e]
    exact ⟨_, _, _, rfl, rfl, h⟩
theorem m_dash (h : Rel x y) (p q c : Int32) : ∃ v x' y', f_X5_dash x p q c = some (v, x') ∧ f_X6_dash y p q c = some (v, y') ∧ Rel x' y' := by
  unfold f_X5_dash f_X6_dash f_X6_whyNotDash
  rcases line_cases p q with ⟨a, b, ha, hb, rfl, rfl, e⟩ | e
  · rcases in_cases c 0 3 li0 li3 (by omega) (by omega) with ⟨d, _, hd, rfl, e2⟩ | e2
    · rw [placeError_0 (by rw [place2]; exact e) e2 (by decide), e, e2]
      obtain ⟨h', p', c', q1, q2, q3⟩ := recorded h
      obtain ⟨r', z', g1, g2, g4⟩ := put_D (y := setP y p' c') h.1 ha hb (show d < 4 by omega)
      simp only [Option.bind_some, show ¬ (1 : Int32) = 0 by decide, ↓reduceIte, q1, q2, g1, lineAt_n, g2, show (0 : Int32) ≤ 0 from Int32.le_refl _, nI_clamp (show 204 + 2 * (16 * a + b) < 2 ^ 31 by omega), g_in2 (show 204 + 2 * (16 * a + b) < 268 by omega) (by omega)]
      exact ⟨_, _, _, rfl, rfl, q3.road g4⟩
    · rw [placeError_2 (by rw [place2]; exact e) e2 (by decide), e, e2]
      exact ⟨_, _, _, rfl, rfl, h⟩
  · rw [placeError_1 (by rw [place2]; exact e), e]
    exact ⟨_, _, _, rfl, rfl, h⟩
theorem m_erase (h : Rel x y) (p q : Int32) : ∃ v x' y', f_X5_erase x p q = some (v, x') ∧ f_X6_erase y p q = some (v, y') ∧ Rel x' y' := by
  unfold f_X5_erase f_X6_erase
  rw [place3]
  rcases cell_cases p q with ⟨a, b, ha, hb, rfl, rfl, e⟩ | e
  · rw [e]
    obtain ⟨h', p', c', q1, q2, q3⟩ := recorded h
    obtain ⟨v, r', z', g1, g2, g4⟩ := clear_u (y := setP y p' c') h.1 ha hb
    simp only [Option.bind_some, show ¬ (1 : Int32) = 0 by decide, ↓reduceIte, q1, q2, g1, cellAt_n]
    rw [g2]
    exact ⟨_, _, _, rfl, rfl, q3.road g4⟩
  · rw [e]
    exact ⟨_, _, _, rfl, rfl, h⟩
theorem m_pass (h : Rel x y) (p : Int32) : ∃ v x' y', f_X5_pass x p = some (v, x') ∧ f_X6_pass y p = some (v, y') ∧ Rel x' y' := by
  unfold f_X5_pass f_X6_pass
  rw [isW]
  rcases in_cases p 1 30 li1 li30 (by omega) (by omega) with ⟨d, _, hd, rfl, e⟩ | e
  · rw [e]
    obtain ⟨h', p', c', q1, q2, q3⟩ := recorded h
    obtain ⟨v, r', z', g1, g2, g4⟩ := days_u (y := setP y p' c') h.1 hd
    simp only [Option.bind_some, show ¬ (1 : Int32) = 0 by decide, ↓reduceIte, q1, q2, g1, g2]
    exact ⟨_, _, _, rfl, rfl, q3.road g4⟩
  · rw [e]
    exact ⟨_, _, _, rfl, rfl, h⟩
/-- a night's error -/
theorem nightError_u (h : RZ x.1 y.1) (p q : Int32) : (∃ a c : Nat, a < 16 ∧ c < 16 ∧ p = nI a ∧ q = nI c ∧ f_X5_nightError x p q = some 0 ∧ f_X6_whyNotNight y p q = some 0) ∨ ∃ v : Int32, v < 0 ∧ f_X5_nightError x p q = some v ∧ f_X6_whyNotNight y p q = some v := by
  obtain ⟨u, hr, hz, hu, _⟩ := h
  have h99 := hu.2.2.2.2.2.2
  unfold f_X5_nightError f_X6_whyNotNight
  rw [isW, isW]
  rcases in_cases p 0 15 li0 li15 (by omega) (by omega) with ⟨a, _, ha, rfl, e⟩ | e
  · rcases in_cases q 0 15 li0 li15 (by omega) (by omega) with ⟨c, _, hc, rfl, e2⟩ | e2
    · rw [e, e2]
      simp only [Option.bind_some, show ¬ (1 : Int32) = 0 by decide, gcl li5 (show 5 < 268 by omega) (by omega), clk li5 (show 5 < 2 ^ 31 by omega), ↓reduceIte, hz.at (show 5 < 268 by omega) (Or.inl (by omega)), hr.2.2.2.2.2, eq0 (show u 5 < 2 ^ 31 by omega)]
      by_cases h0 : u 5 = 0
      · simp only [if_pos h0]
        exact Or.inr ⟨-3, by decide, rfl, rfl⟩
      · simp only [if_neg h0]
        exact Or.inl ⟨a, c, by omega, by omega, rfl, rfl, trivial, trivial⟩
    · rw [e, e2]
      exact Or.inr ⟨-1, by decide, rfl, rfl⟩
  · rw [e]
    exact Or.inr ⟨-1, by decide, rfl, rfl⟩
theorem m_night (h : Rel x y) (p q : Int32) : ∃ v x' y', f_X5_night x p q = some (v, x') ∧ f_X6_night y p q = some (v, y') ∧ Rel x' y' := by
  unfold f_X5_night f_X6_night
  rcases nightError_u h.1 p q with ⟨a, c, ha, hc, rfl, rfl, e1, e2⟩ | ⟨v, hv, e1, e2⟩
  · rw [e1, e2]
    obtain ⟨h', p', c', q1, q2, q3⟩ := recorded h
    obtain ⟨v, r', z', g1, g2, g4⟩ := workNight_u (y := setP y p' c') h.1 ha hc
    simp only [Option.bind_some, ↓reduceIte, q1, q2, g1, g2, show (0 : Int32) ≤ 0 from Int32.le_refl _]
    exact ⟨_, _, _, rfl, rfl, q3.road g4⟩
  · rw [e1, e2]
    simp only [Option.bind_some]
    rw [if_neg (fun z => by rw [z] at hv; exact absurd hv (by decide)), if_neg (fun z => Int32.not_le.mpr hv z)]
    exact ⟨_, _, _, rfl, rfl, h⟩
/-- a setting, a traffic or the cans change -/
theorem RZ.low {r r' : TX3s} {z : Nat → Int32} {u : Nat → Nat} {i v : Nat} (h : RdU u r ∧ ZU u z ∧ UOk u ∧ r.2.2.2.2.2.2.1 = z 6 ∧ r.2.2.2.2.2.2.2.1 = z 7 ∧ r.2.2.2.2.2.2.2.2.1 = z 8 ∧ r.2.2.2.2.2.2.2.2.2 = z 9) (hi : i < 6)
    (h1 : r'.1 = r.1) (h2 : r'.2.1 = r.2.1) (h3 : r'.2.2.1 = r.2.2.1) (h4 : ∀ j, j < 3 → r'.2.2.2.1 j = nI (if 2 + j = i then v else u (2 + j))) (h5 : ∀ j, j < 2 → r'.2.2.2.2.1 j = nI (if j = i then v else u j)) (h6 : r'.2.2.2.2.2.1 = nI (if 5 = i then v else u 5)) (h7 : r'.2.2.2.2.2.2 = r.2.2.2.2.2.2)
    (k0 : i = 0 → 1 ≤ v ∧ v ≤ 100) (k1 : i = 1 → 1 ≤ v ∧ v ≤ 40) (k2 : 2 ≤ i → i < 5 → v ≤ 20) (k5 : i = 5 → v ≤ 99) : RZ r' (upd z i (nI v)) := by
  obtain ⟨hr, hz, hu, c6, c7, c8, c9⟩ := h
  have hv : ∀ k, k ≠ i → (fun k => if k = i then v else u k) k = u k := fun k hk => if_neg hk
  have tl : ∀ k, 6 ≤ k → upd z i (nI v) k = z k := fun k hk => upd_ne (by omega)
  refine ⟨fun k => if k = i then v else u k, ⟨?_, ?_, ?_, h4, h5, h6⟩, ?_, ⟨?_, ?_, ?_, ?_, ?_, ?_, ?_⟩, ?_, ?_, ?_, ?_⟩
  · rw [h1]
    refine ⟨hr.1.1, hr.1.2.1, fun j hj => ?_⟩
    rw [hv _ (by omega), hv _ (by omega)]
    exact hr.1.2.2 j hj
  · rw [h2]
    refine ⟨hr.2.1.1, hr.2.1.2.1, fun j hj => ?_⟩
    rw [hv _ (by omega), hv _ (by omega)]
    exact hr.2.1.2.2 j hj
  · rw [h3]
    refine ⟨hr.2.2.1.1, hr.2.2.1.2.1, fun j hj => ?_⟩
    rw [hv _ (by omega), hv _ (by omega)]
    exact hr.2.2.1.2.2 j hj
  · intro k hk hk2
    show upd z i (nI v) k = nI (if k = i then v else u k)
    by_cases hki : k = i
    · rw [hki, upd_eq, if_pos rfl]
    · rw [upd_ne hki, if_neg hki]
      exact hz k hk hk2
  · intro j hj
    rw [hv _ (by omega), hv _ (by omega)]
    exact hu.1 j hj
  · intro j hj
    rw [hv _ (by omega), hv _ (by omega)]
    exact hu.2.1 j hj
  · intro j hj
    rw [hv _ (by omega), hv _ (by omega)]
    exact hu.2.2.1 j hj
  · have := hu.2.2.2.1
    show 1 ≤ (if 0 = i then v else u 0) ∧ (if 0 = i then v else u 0) ≤ 100
    split
    · exact k0 (by omega)
    · exact this
  · have := hu.2.2.2.2.1
    show 1 ≤ (if 1 = i then v else u 1) ∧ (if 1 = i then v else u 1) ≤ 40
    split
    · exact k1 (by omega)
    · exact this
  · intro j hj
    have := hu.2.2.2.2.2.1 j hj
    show (if 2 + j = i then v else u (2 + j)) ≤ 20
    split
    · exact k2 (by omega) (by omega)
    · exact this
  · have := hu.2.2.2.2.2.2
    show (if 5 = i then v else u 5) ≤ 99
    split
    · exact k5 (by omega)
    · exact this
  · rw [tl 6 (by omega), ← c6]; exact congrArg (fun z => z.1) h7
  · rw [tl 7 (by omega), ← c7]; exact congrArg (fun z => z.2.1) h7
  · rw [tl 8 (by omega), ← c8]; exact congrArg (fun z => z.2.2.1) h7
  · rw [tl 9 (by omega), ← c9]; exact congrArg (fun z => z.2.2.2) h7
theorem m_set (h : Rel x y) (p q : Int32) : ∃ v x' y', f_X5_set x p q = some (v, x') ∧ f_X6_set y p q = some (v, y') ∧ Rel x' y' := by
  have key : ∀ (a t : Nat), a < 2 → t < 2 ^ 30 → (a = 0 → t ≤ 100) → (a = 1 → t ≤ 40) → ∃ v x' y', f_X5_set_j22 x (nI a) q (nI t) = some (v, x') ∧ f_X6_set_j24 y (nI a) q (nI t) = some (v, y') ∧ Rel x' y' := by
    intro a t ha ht h0 h1
    unfold f_X5_set_j22 f_X6_set_j24
    rw [isW]
    rcases in_cases q 1 (nI t) li1 rfl (by omega) ht with ⟨d, hd1, hd, rfl, e⟩ | e
    · rw [e]
      obtain ⟨h', p', c', q1, q2, q3⟩ := recorded h
      obtain ⟨u, hr, hz, hu, ct⟩ := h.1
      have q5 : (setP y p' c').1 = y.1 := rfl
      simp only [Option.bind_some, show ¬ (1 : Int32) = 0 by decide, ↓reduceIte, q1, q2, q5, nI_clamp (show a < 2 ^ 31 by omega), g_in2 (show a < 268 by omega) (by omega), hz.at (show a < 268 by omega) (Or.inl (by omega))]
      unfold f_X3_changeSetting
      simp only [nI_clamp (show a < 2 ^ 31 by omega), g_in2 ha (by omega), ↓reduceIte, hr.2.2.2.2.1 a ha, Option.bind_some]
      refine ⟨_, _, _, rfl, rfl, q3.road (RZ.low ⟨hr, hz, hu, ct⟩ (i := a) (v := d) (by omega) rfl rfl rfl (fun j hj => ?_) (fun j hj => ?_) ?_ rfl (fun z => ⟨hd1, by have := h0 z; omega⟩) (fun z => ⟨hd1, by have := h1 z; omega⟩) (fun z => by omega) (fun z => by omega))⟩
      · rw [if_neg (by omega)]; exact hr.2.2.2.1 j hj
      · by_cases hja : j = a
        · rw [if_pos hja, hja]; exact upd_eq
        · rw [if_neg hja]; exact (upd_ne hja).trans (hr.2.2.2.2.1 j hj)
      · rw [if_neg (by omega)]; exact hr.2.2.2.2.2
    · rw [e]
      exact ⟨_, _, _, rfl, rfl, h⟩
  unfold f_X5_set f_X6_set
  rw [isW]
  rcases in_cases p 0 1 li0 li1 (by omega) (by omega) with ⟨a, _, ha, rfl, e⟩ | e
  · rw [e]
    simp only [Option.bind_some, show ¬ (1 : Int32) = 0 by decide, ↓reduceIte, eq0 (show a < 2 ^ 31 by omega)]
    by_cases h0 : a = 0
    · simp only [if_pos h0]
      exact key a 100 (by omega) (by omega) (by omega) (by omega)
    · simp only [if_neg h0]
      exact key a 40 (by omega) (by omega) (by omega) (by omega)
  · rw [e]
    exact ⟨_, _, _, rfl, rfl, h⟩
theorem m_traffic (h : Rel x y) (p q : Int32) : ∃ v x' y', f_X5_traffic x p q = some (v, x') ∧ f_X6_traffic y p q = some (v, y') ∧ Rel x' y' := by
  unfold f_X5_traffic f_X6_traffic
  rw [isW, isW]
  rcases in_cases p 0 2 li0 li2 (by omega) (by omega) with ⟨a, _, ha, rfl, e⟩ | e
  · rcases in_cases q 0 20 li0 li20 (by omega) (by omega) with ⟨d, _, hd, rfl, e2⟩ | e2
    · rw [e, e2]
      obtain ⟨h', p', c', q1, q2, q3⟩ := recorded h
      obtain ⟨u, hr, hz, hu, ct⟩ := h.1
      have q5 : (setP y p' c').1 = y.1 := rfl
      simp only [Option.bind_some, show ¬ (1 : Int32) = 0 by decide, ↓reduceIte, q1, q2, q5, show (2 : Int32) = nI 2 from rfl, nI_add, nI_clamp (show 2 + a < 2 ^ 31 by omega), g_in2 (show 2 + a < 268 by omega) (by omega), hz.at (show 2 + a < 268 by omega) (Or.inl (by omega))]
      unfold f_X3_changeTraffic
      simp only [nI_clamp (show a < 2 ^ 31 by omega), g_in2 (show a < 3 by omega) (by omega), ↓reduceIte, hr.2.2.2.1 a (by omega), Option.bind_some]
      refine ⟨_, _, _, rfl, rfl, q3.road (RZ.low ⟨hr, hz, hu, ct⟩ (i := 2 + a) (v := d) (by omega) rfl rfl rfl (fun j hj => ?_) (fun j hj => ?_) ?_ rfl (fun z => by omega) (fun z => by omega) (fun _ _ => hd) (fun z => by omega))⟩
      · by_cases hja : j = a
        · rw [if_pos (by omega), hja]; exact upd_eq
        · rw [if_neg (by omega)]; exact (upd_ne hja).trans (hr.2.2.2.1 j hj)
      · rw [if_neg (by omega)]; exact hr.2.2.2.2.1 j hj
      · rw [if_neg (by omega)]; exact hr.2.2.2.2.2
    · rw [e, e2]
      exact ⟨_, _, _, rfl, rfl, h⟩
  · rw [e]
    exact ⟨_, _, _, rfl, rfl, h⟩
theorem m_bring (h : Rel x y) (p : Int32) : ∃ v x' y', f_X5_bring x p = some (v, x') ∧ f_X6_bring y p = some (v, y') ∧ Rel x' y' := by
  unfold f_X5_bring f_X6_bring
  rw [isW]
  rcases in_cases p 1 99 li1 li99 (by omega) (by omega) with ⟨d, _, hd, rfl, e⟩ | e
  · rw [e]
    obtain ⟨h', p', c', q1, q2, q3⟩ := recorded h
    obtain ⟨u, hr, hz, hu, ct⟩ := h.1
    have h99 := hu.2.2.2.2.2.2
    have q5 : (setP y p' c').1 = y.1 := rfl
    simp only [Option.bind_some, show ¬ (1 : Int32) = 0 by decide, ↓reduceIte, q1, q2, q5, gcl li5 (show 5 < 268 by omega) (by omega), clk li5 (show 5 < 2 ^ 31 by omega), hz.at (show 5 < 268 by omega) (Or.inl (by omega)), hr.2.2.2.2.2, nI_add, li99, leN (show u 5 + d < 2 ^ 31 by omega) (show 99 < 2 ^ 31 by omega)]
    by_cases h9 : u 5 + d ≤ 99
    · simp only [if_pos h9]
      unfold f_X3_addCans
      simp only [hr.2.2.2.2.2, nI_add, upd_eq, Option.bind_some]
      refine ⟨_, _, _, rfl, rfl, q3.road (RZ.low ⟨hr, hz, hu, ct⟩ (i := 5) (v := u 5 + d) (by omega) rfl rfl rfl (fun j hj => ?_) (fun j hj => ?_) rfl rfl (fun z => by omega) (fun z => by omega) (fun _ _ => by omega) (fun z => h9))⟩
      · rw [if_neg (by omega)]; exact hr.2.2.2.1 j hj
      · rw [if_neg (by omega)]; exact hr.2.2.2.2.1 j hj
    · simp only [if_neg h9]
      exact ⟨_, _, _, rfl, rfl, h⟩
  · rw [e]
    exact ⟨_, _, _, rfl, rfl, h⟩
theorem narC {d : Nat} (hd : d ≤ 126) : vp_nar .char (((nI d).toUInt32 % 65536).toInt32) = nI d := by
  have h : ∀ d, d < 127 → vp_nar .char (((nI d).toUInt32 % 65536).toInt32) = nI d := by decide
  exact h d (by omega)
theorem m_append (h : Rel x y) (p : Int32) : ∃ v x' y', f_X5_append x p = some (v, x') ∧ f_X6_append y p = some (v, y') ∧ Rel x' y' := by
  obtain ⟨h1, h2, h3, ⟨n, hn, e1, e2, e3⟩⟩ := h
  unfold f_X5_append f_X6_append
  rw [isW]
  rcases in_cases p 33 126 li33 li126 (by omega) (by omega) with ⟨d, hd1, hd, rfl, e⟩ | e
  · rw [e]
    simp only [Option.bind_some, show ¬ (1 : Int32) = 0 by decide, ↓reduceIte, e1, e2, li70, ltN (show n < 2 ^ 31 by omega) (show 70 < 2 ^ 31 by omega), eqN (show n < 2 ^ 31 by omega) (show 70 < 2 ^ 31 by omega)]
    by_cases h70 : n = 70
    · rw [if_neg (by omega), if_pos h70]
      exact ⟨_, _, _, rfl, rfl, h1, h2, h3, ⟨n, hn, e1, e2, e3⟩⟩
    · rw [if_pos (by omega), if_neg h70]
      unfold f_X2_add
      simp only [e1, li70, leN (show 70 < 2 ^ 31 by omega) (show n < 2 ^ 31 by omega), show ¬ 70 ≤ n by omega, ↓reduceIte, nI_clamp (show n < 2 ^ 31 by omega), ltz (show n < 2 ^ 31 by omega), or_false, Option.bind_some, nI_1, narC hd]
      refine ⟨_, _, _, rfl, rfl, h1, h2, h3, ⟨n + 1, by omega, rfl, rfl, fun i hi => ?_⟩⟩
      by_cases hin : i = n
      · subst hin
        exact ⟨d, hd1, hd, upd_eq, upd_eq⟩
      · obtain ⟨v, k1, k2, k3, k4⟩ := e3 i (by omega)
        exact ⟨v, k1, k2, (upd_ne hin).trans k3, (upd_ne hin).trans k4⟩
  · rw [e]
    exact ⟨_, _, _, rfl, rfl, h1, h2, h3, ⟨n, hn, e1, e2, e3⟩⟩
theorem m_clearText (h : Rel x y) : ∃ v x' y', f_X5_clearText x = some (v, x') ∧ f_X6_clearText y = some (v, y') ∧ Rel x' y' := by
  obtain ⟨h1, h2, h3, ⟨n, hn, e1, e2, e3⟩⟩ := h
  refine ⟨nI n, (x.1, x.2.1, x.2.2.1, x.2.2.2.1, (x.2.2.2.2.1.1, 0), x.2.2.2.2.2), (y.1, y.2.1, y.2.2.1, y.2.2.2.1, y.2.2.2.2.1, y.2.2.2.2.2.1, 0, y.2.2.2.2.2.2.2), ?_, ?_, h1, h2, h3, ⟨0, by omega, rfl, rfl, fun i hi => by omega⟩⟩
  · rw [← e1]; rfl
  · rw [← e2]; rfl
end MA
