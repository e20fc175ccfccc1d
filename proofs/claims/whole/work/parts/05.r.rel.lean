/-! the class and the reference say the same -/
def HR (h : TX1s) (p : Nat → Int32) (many : Int32) : Prop := ∃ o c : Nat, o < 5 ∧ c ≤ 5 ∧ h.2.1 = nI o ∧ h.2.2 = nI c ∧ many = nI c ∧ (∀ i, i < 5 → Shp (h.1 i)) ∧ ∀ j, j < c → RZ (h.1 ((o + j) % 5)) (fun k => p (268 * j + k))
def OR (o : TX2s) (b : Nat → Int32) (t : Int32) : Prop := ∃ n : Nat, n ≤ 70 ∧ o.2 = nI n ∧ t = nI n ∧ ∀ i, i < n → ∃ v : Nat, 33 ≤ v ∧ v ≤ 126 ∧ o.1 i = nI v ∧ b i = nI v
def SR (s : TX3s) (k k6 : Int32) (z : Nat → Int32) : Prop := Shp s ∧ ((k = 0 ∧ k6 = 0) ∨ (k = 1 ∧ k6 = 1 ∧ RZ s z))
def Rel (x : TX5s) (y : TX6s) : Prop := RZ x.1 y.1 ∧ SR x.2.1 x.2.2.1 y.2.2.2.2.1 y.2.2.2.1 ∧ HR x.2.2.2.1 y.2.1 y.2.2.1 ∧ OR x.2.2.2.2.1 y.2.2.2.2.2.1 y.2.2.2.2.2.2.1
theorem m5 {s : Nat} (h : s < 2 ^ 20) : nI s - nI s / nI 5 * nI 5 = nI (s % 5) := by
  rw [pk_div (by omega) (by omega) (by omega), pk_mul, pk_sub (by omega), show s - s / 5 * 5 = s % 5 by omega]
theorem updR_eq {f : Nat → TX3s} {k : Nat} {v : TX3s} : updR f k v k = v := if_pos rfl
theorem updR_ne {f : Nat → TX3s} {k j : Nat} {v : TX3s} (h : j ≠ k) : updR f k v j = f j := if_neg h
theorem record_u {h : TX1s} {y : TX6s} {r : TX3s} (hh : HR h y.2.1 y.2.2.1) (hr : RZ r y.1) : ∃ h' p' c', f_X1_record h r = some h' ∧ f_X6_record y = some (setP y p' c') ∧ HR h' p' c' := by
  obtain ⟨o, c, ho, hc, e1, e2, e3, e4, e5⟩ := hh
  obtain ⟨p', q1, q2, q3⟩ := rec6 hc e3
  have hi : (o + c) % 5 < 5 := Nat.mod_lt _ (by omega)
  obtain ⟨r', g1, g2, _⟩ := copy3 (e4 _ hi) hr
  unfold f_X1_record
  simp only [e1, e2, nI_add, m5 (show o + c < 2 ^ 20 by omega), nI_clamp (show (o + c) % 5 < 2 ^ 31 by omega), g_in2 hi (by omega), ↓reduceIte, g1, Option.bind_some, li5, leN (show 5 < 2 ^ 31 by omega) (show c < 2 ^ 31 by omega)]
  have hshp : ∀ i, i < 5 → Shp (updR h.1 ((o + c) % 5) r' i) := by
    intro i hi
    by_cases h : i = (o + c) % 5
    · subst h; rw [updR_eq]; exact g2.shp
    · rw [updR_ne h]; exact e4 i hi
  by_cases h5 : c = 5
  · subst h5
    rw [if_pos (by omega)]
    refine ⟨_, p', _, rfl, q1, (o + 1) % 5, 5, Nat.mod_lt _ (by omega), by omega, ?_, rfl, rfl, hshp, fun j hj => ?_⟩
    · show nI o + 1 - (nI o + 1) / nI 5 * nI 5 = _
      rw [nI_1]
      exact m5 (by omega)
    · by_cases h4 : j = 4
      · subst h4
        show RZ (updR h.1 ((o + 5) % 5) r' (((o + 1) % 5 + 4) % 5)) _
        rw [show ((o + 1) % 5 + 4) % 5 = (o + 5) % 5 by omega, updR_eq]
        exact g2.ext (fun k hk => q2 k hk)
      · show RZ (updR h.1 ((o + 5) % 5) r' (((o + 1) % 5 + j) % 5)) _
        rw [updR_ne (by omega), show ((o + 1) % 5 + j) % 5 = (o + (j + 1)) % 5 by omega]
        exact (e5 (j + 1) (by omega)).ext (fun k hk => q3 j k (by rw [if_pos rfl]; omega) hk)
  · rw [if_neg (by omega)]
    rw [if_neg h5] at q1
    refine ⟨_, p', _, rfl, q1, o, c + 1, ho, by omega, rfl, nI_1 c, rfl, hshp, fun j hj => ?_⟩
    by_cases h4 : j = c
    · subst h4
      show RZ (updR h.1 ((o + j) % 5) r' ((o + j) % 5)) _
      rw [updR_eq]
      exact g2.ext (fun k hk => by have := q2 k hk; rw [if_neg h5] at this; exact this)
    · show RZ (updR h.1 ((o + c) % 5) r' ((o + j) % 5)) _
      rw [updR_ne (by omega)]
      exact (e5 j (by omega)).ext (fun k hk => by have := q3 j k (by rw [if_neg h5]; omega) hk; rw [if_neg h5] at this; exact this)
/-- both keep the road -/
theorem recorded {x : TX5s} {y : TX6s} (h : Rel x y) : ∃ h' p' c', f_X5_recordedRoad x = some (x.1, x.2.1, x.2.2.1, h', x.2.2.2.2.1, x.2.2.2.2.2) ∧ f_X6_record y = some (setP y p' c') ∧ Rel (x.1, x.2.1, x.2.2.1, h', x.2.2.2.2.1, x.2.2.2.2.2) (setP y p' c') := by
  obtain ⟨h1, h2, h3, h4⟩ := h
  obtain ⟨h', p', c', q1, q2, q3⟩ := record_u h3 h1
  refine ⟨h', p', c', ?_, q2, h1, h2, q3, h4⟩
  unfold f_X5_recordedRoad
  rw [q1]; rfl
theorem Rel.road {x : TX5s} {y : TX6s} (h : Rel x y) {r : TX3s} {z : Nat → Int32} (hr : RZ r z) : Rel (r, x.2) (z, y.2) := ⟨hr, h.2⟩
section MM
variable {x : TX5s} {y : TX6s}
theorem m_save (h : Rel x y) : ∃ v x' y', f_X5_save x = some (v, x') ∧ f_X6_save y = some (v, y') ∧ Rel x' y' := by
  obtain ⟨h1, h2, h3, h4⟩ := h
  obtain ⟨s', e1, e2, _⟩ := copy3 h2.1 h1
  unfold f_X5_save f_X6_save
  obtain ⟨⟨a1, a2⟩, m, ⟨g1, k', g2, g3⟩, q⟩ := lp_for1 f_X6_save_l7 (fun j a => a.1 = nI j ∧ ∃ k', a.2 = (y.1, y.2.1, y.2.2.1, k', 1, y.2.2.2.2.2) ∧ ∀ i, i < j → k' i = y.1 i) 268 (by
    rintro j hj ⟨a1, a2⟩ ⟨g1, k', g2, g3⟩
    simp only at g1 g2
    subst g1 g2
    refine ⟨(nI (j + 1), (y.1, y.2.1, y.2.2.1, upd k' j (y.1 j), 1, y.2.2.2.2.2)), ⟨rfl, _, rfl, fun i hi => ?_⟩, fun k => ?_⟩
    · by_cases hij : i = j
      · subst hij; exact upd_eq
      · rw [upd_ne hij]; exact g3 i (by omega)
    · unfold f_X6_save_l7
      rw [if_neg (by show ¬ (268 : Int32) ≤ nI j; rw [li268, nI_leI (by omega) (by omega)]; omega)]
      simp only [nI_clamp (show j < 2 ^ 31 by omega), g_in2 hj (by omega), ↓reduceIte, nI_1]) (a := (0, (y.1, y.2.1, y.2.2.1, y.2.2.2.1, 1, y.2.2.2.2.2))) ⟨rfl, _, rfl, fun i hi => by omega⟩ (by omega)
  simp only at g1 g2
  subst g1 g2
  refine ⟨y.1 6, (x.1, s', 1, x.2.2.2.1, x.2.2.2.2.1, x.2.2.2.2.2), (y.1, y.2.1, y.2.2.1, k', 1, y.2.2.2.2.2), ?_, ?_, h1, ⟨e2.shp, Or.inr ⟨rfl, rfl, e2.ext g3⟩⟩, h3, h4⟩
  · rw [e1]
    obtain ⟨u, hr, hz, hu, c6, _⟩ := h1
    rw [← c6]; rfl
  · refine Eq.trans q ?_
    unfold f_X6_save_l7
    rw [if_pos (show (268 : Int32) ≤ nI 268 by decide)]
    rfl
theorem m_restore (h : Rel x y) : ∃ v x' y', f_X5_restore x = some (v, x') ∧ f_X6_restore y = some (v, y') ∧ Rel x' y' := by
  unfold f_X5_restore f_X6_restore
  rcases h.2.1.2 with ⟨k0, k1⟩ | ⟨k0, k1, k2⟩
  · rw [if_pos k0, if_pos k1]
    exact ⟨_, _, _, rfl, rfl, h⟩
  · rw [if_neg (by rw [k0]; decide), if_neg (by rw [k1]; decide)]
    obtain ⟨h', p', c', q1, q2, q3⟩ := recorded h
    rw [q1, q2]
    simp only [Option.bind_some]
    obtain ⟨r', e1, e2, e3⟩ := copy3 h.1.shp k2
    rw [e1]
    obtain ⟨⟨a1, a2⟩, m, ⟨g1, z', g2, g3⟩, q⟩ := lp_for1 f_X6_restore_l16 (fun j a => a.1 = nI j ∧ ∃ z', a.2 = (z', (setP y p' c').2) ∧ ∀ i, i < j → z' i = y.2.2.2.1 i) 268 (by
      rintro j hj ⟨a1, a2⟩ ⟨g1, z', g2, g3⟩
      simp only at g1 g2
      subst g1 g2
      refine ⟨(nI (j + 1), (upd z' j (y.2.2.2.1 j), (setP y p' c').2)), ⟨rfl, _, rfl, fun i hi => ?_⟩, fun k => ?_⟩
      · by_cases hij : i = j
        · subst hij; exact upd_eq
        · rw [upd_ne hij]; exact g3 i (by omega)
      · unfold f_X6_restore_l16
        rw [if_neg (by show ¬ (268 : Int32) ≤ nI j; rw [li268, nI_leI (by omega) (by omega)]; omega)]
        simp only [nI_clamp (show j < 2 ^ 31 by omega), g_in2 hj (by omega), ↓reduceIte, nI_1]
        rfl) (a := (0, setP y p' c')) ⟨rfl, y.1, rfl, fun i hi => by omega⟩ (by omega)
    simp only at g1 g2
    subst g1 g2
    have hz := e2.ext g3
    refine ⟨z' 6, (r', x.2.1, x.2.2.1, h', x.2.2.2.2.1, x.2.2.2.2.2), (z', (setP y p' c').2), ?_, ?_, hz, q3.2⟩
    · obtain ⟨u, hr, hz2, hu, c6, _⟩ := hz
      rw [← c6]; rfl
    · rw [q]
      unfold f_X6_restore_l16
      rw [if_pos (show (268 : Int32) ≤ nI 268 by decide)]
      rfl
theorem m_undo (h : Rel x y) : ∃ v x' y', f_X5_undo x = some (v, x') ∧ f_X6_undo y = some (v, y') ∧ Rel x' y' := by
  obtain ⟨h1, h2, ⟨o, c, ho, hc, e1, e2, e3, e4, e5⟩, h4⟩ := h
  unfold f_X5_undo f_X6_undo
  rw [e2, e3]
  simp only [eq0 (show c < 2 ^ 31 by omega)]
  by_cases h0 : c = 0
  · rw [if_pos h0, if_pos h0]
    exact ⟨_, _, _, rfl, rfl, h1, h2, ⟨o, c, ho, hc, e1, e2, e3, e4, e5⟩, h4⟩
  · rw [if_neg h0, if_neg h0]
    have hi : (o + (c - 1)) % 5 < 5 := Nat.mod_lt _ (by omega)
    obtain ⟨r', g1, g2, _⟩ := copy3 h1.shp (e5 (c - 1) (by omega))
    have ht : f_X1_takeBack x.2.2.2.1 x.1 = some (nI (c - 1), (x.2.2.2.1.1, x.2.2.2.1.2.1, nI (c - 1)), r') := by
      unfold f_X1_takeBack
      simp only [e1, e2, le0 (show c < 2 ^ 31 by omega), h0, ↓reduceIte, li1, li5, pk_sub (show 1 ≤ c by omega), nI_add, m5 (show o + (c - 1) < 2 ^ 20 by omega), nI_clamp (show (o + (c - 1)) % 5 < 2 ^ 31 by omega), g_in2 hi (by omega), g1, Option.bind_some]
    rw [ht, li1, pk_sub (show 1 ≤ c by omega)]
    obtain ⟨⟨a1, a2⟩, m, ⟨k1, z', k2, k3⟩, q⟩ := lp_for1 f_X6_undo_l22 (fun j a => a.1 = nI j ∧ ∃ z', a.2 = (z', y.2.1, nI (c - 1), y.2.2.2) ∧ ∀ i, i < j → z' i = y.2.1 (268 * (c - 1) + i)) 268 (by
      rintro j hj ⟨a1, a2⟩ ⟨k1, z', k2, k3⟩
      simp only at k1 k2
      subst k1 k2
      refine ⟨(nI (j + 1), (upd z' j (y.2.1 (268 * (c - 1) + j)), y.2.1, nI (c - 1), y.2.2.2)), ⟨rfl, _, rfl, fun i hi => ?_⟩, fun k => ?_⟩
      · by_cases hij : i = j
        · subst hij; exact upd_eq
        · rw [upd_ne hij]; exact k3 i (by omega)
      · unfold f_X6_undo_l22
        rw [if_neg (by show ¬ (268 : Int32) ≤ nI j; rw [li268, nI_leI (by omega) (by omega)]; omega)]
        simp only [li268, pk_mul, nI_add, Nat.mul_comm (c - 1) 268, nI_clamp (show j < 2 ^ 31 by omega), nI_clamp (show 268 * (c - 1) + j < 2 ^ 31 by omega), g_in2 hj (by omega), g_in2 (show 268 * (c - 1) + j < 1340 by omega) (by omega), ↓reduceIte, nI_1]) (a := (0, (y.1, y.2.1, nI (c - 1), y.2.2.2))) ⟨rfl, y.1, rfl, fun i hi => by omega⟩ (by omega)
    simp only at k1 k2
    subst k1 k2
    refine ⟨nI (c - 1), (r', x.2.1, x.2.2.1, (x.2.2.2.1.1, x.2.2.2.1.2.1, nI (c - 1)), x.2.2.2.2.1, x.2.2.2.2.2), (z', y.2.1, nI (c - 1), y.2.2.2), rfl, ?_, g2.ext k3, h2, ⟨o, c - 1, ho, by omega, e1, rfl, rfl, e4, fun j hj => e5 j (by omega)⟩, h4⟩
    refine Eq.trans q ?_
    unfold f_X6_undo_l22
    rw [if_pos (show (268 : Int32) ≤ nI 268 by decide)]
end MM
