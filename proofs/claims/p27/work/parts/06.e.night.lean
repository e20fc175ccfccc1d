/-! a night: the class's and the law's -/
/-- the cans are v -/
def s5 (u : Nat → Nat) (v : Nat) : Nat → Nat := fun k => if k = 5 then v else u k
theorem s5_n {u : Nat → Nat} {v k : Nat} (h : k ≠ 5) : s5 u v k = u k := if_neg h
theorem s5_5 {u : Nat → Nat} {v : Nat} : s5 u v 5 = v := if_pos rfl
theorem s5_ok {u : Nat → Nat} {v : Nat} (h : UOk u) (hv : v ≤ 99) : UOk (s5 u v) := by
  refine ⟨fun i hi => ?_, fun i hi => ?_, fun i hi => ?_, ?_, ?_, fun i hi => ?_, ?_⟩
  · rw [s5_n (by omega), s5_n (by omega)]; exact h.1 i hi
  · rw [s5_n (by omega), s5_n (by omega)]; exact h.2.1 i hi
  · rw [s5_n (by omega), s5_n (by omega)]; exact h.2.2.1 i hi
  · rw [s5_n (by omega)]; exact h.s0
  · rw [s5_n (by omega)]; exact h.s1
  · rw [s5_n (by omega)]; exact h.T hi
  · rw [s5_5]; exact hv
theorem s5_rd {u : Nat → Nat} {v : Nat} {r r' : TX3s} (h : RdU u r) (e : r'.1 = r.1 ∧ r'.2.1 = r.2.1 ∧ r'.2.2.1 = r.2.2.1 ∧ r'.2.2.2.1 = r.2.2.2.1 ∧ r'.2.2.2.2.1 = r.2.2.2.2.1) (e5 : r'.2.2.2.2.2.1 = nI v) : RdU (s5 u v) r' := by
  obtain ⟨f1, f2, f3, f4, f5⟩ := e
  obtain ⟨g1, g2, g3, g4, g5, g6⟩ := h
  refine ⟨⟨?_, ?_, fun j hj => ?_⟩, ⟨?_, ?_, fun j hj => ?_⟩, ⟨?_, ?_, fun j hj => ?_⟩, fun j hj => ?_, fun j hj => ?_, ?_⟩
  · rw [f1]; exact g1.1
  · rw [f1]; exact g1.2.1
  · rw [s5_n (by omega), s5_n (by omega), f1]; exact g1.2.2 j hj
  · rw [f2]; exact g2.1
  · rw [f2]; exact g2.2.1
  · rw [s5_n (by omega), s5_n (by omega), f2]; exact g2.2.2 j hj
  · rw [f3]; exact g3.1
  · rw [f3]; exact g3.2.1
  · rw [s5_n (by omega), s5_n (by omega), f3]; exact g3.2.2 j hj
  · rw [s5_n (by omega), f4]; exact g4 j hj
  · rw [s5_n (by omega), f5]; exact g5 j hj
  · rw [s5_5]; exact e5
abbrev TN : Type := Int32 × Int32 × TV48s × TV48s × TV32s × TV10s
abbrev TM : Type := Int32 × TV48s × TV48s × TV32s × TV10s
theorem fa_same {f : Nat → Int32} {i : Nat} : upd f i (f i) = f := by
  funext j
  by_cases e : j = i
  · rw [e, upd_eq]
  · rw [upd_ne e]
section NL
variable {u : Nat → Nat} {a p w q d e t : Nat → Int32}
/-- what the law asks of a sign in the night -/
theorem night105 (k34 : TN → Option TM) {A k at_ v c s1 : Nat} (hk : k < 8) (hv : v ≤ 100) (hA : A ≤ c) (hc : c ≤ 99) (hs : s1 ≤ 40) (t5 : t 5 = nI (c - A)) (t1 : t 1 = nI s1) : f_L_night_j105 k34 (nI A, nI k, p, q, e, t) (nI at_) (nI v) = if (v ≠ 0 ∧ v < 60) ∧ A < c ∧ A < s1 then (if 3 ≤ nI k then (if nI at_ < 0 ∨ 48 ≤ (nI at_).toNatClampNeg then none else f_L_night_j147 k34 (nI A, nI k, p, q, e, t) (nI at_) (q (nI at_).toNatClampNeg)) else f_L_night_j147 k34 (nI A, nI k, p, q, e, t) (nI at_) 100) else k34 (nI A, nI (k + 1), p, q, e, t) := by
  unfold f_L_night_j105
  simp only [weak_u hv, Option.bind_some, tc0, tg0, tc1, tg1, tc2, tg2, tc3, tg3, tc4, tg4, tc5, tg5, tc6, tg6, tc7, tg7, tc8, tg8, tc9, tg9, ↓reduceIte, t5, t1, le0 (show c - A < 2 ^ 31 by omega), leN (show s1 < 2 ^ 31 by omega) (show A < 2 ^ 31 by omega), nI_1]
  by_cases h0 : v = 0
  · simp only [h0, ↓reduceIte, ne_eq, not_true_eq_false, false_and]
  · by_cases h1 : 60 ≤ v
    · simp only [if_neg h0, if_pos h1, ↓reduceIte]
      rw [if_neg (by omega)]
    · simp only [if_neg h0, if_neg h1, show ¬ (1 : Int32) = 0 by decide, ↓reduceIte]
      by_cases h2 : c - A = 0
      · rw [if_pos h2, if_neg (by omega)]
      · rw [if_neg h2]
        by_cases h3 : s1 ≤ A
        · rw [if_pos h3, if_neg (by omega)]
        · rw [if_neg h3]
          exact (if_pos (c := (v ≠ 0 ∧ v < 60) ∧ A < c ∧ A < s1) ⟨⟨h0, by omega⟩, by omega, by omega⟩).symm
/-- the rows behind a sign in the night -/
def NA (u : Nat → Nat) (c : Nat) (s : (Nat → Nat) × Nat) (t0 a p w q d e t : Nat → Int32) : Prop := AR (s5 s.1 (c - s.2)) a p w q d e t ∧ UOk s.1 ∧ s.2 ≤ c ∧ s.1 1 = u 1 ∧ ∀ i, 6 ≤ i → t i = t0 i
theorem NA.t5 {c : Nat} {s : (Nat → Nat) × Nat} {t0 : Nat → Int32} (h : NA u c s t0 a p w q d e t) : t 5 = nI (c - s.2) := by
  have g := h.1.2.2 5 (by omega)
  rw [s5_5] at g
  exact g
theorem NA.t1 {c : Nat} {s : (Nat → Nat) × Nat} {t0 : Nat → Int32} (h : NA u c s t0 a p w q d e t) : t 1 = nI (u 1) := by
  have g := h.1.2.2 1 (by omega)
  rw [s5_n (by omega), h.2.2.2.1] at g
  exact g
/-- one can less -/
theorem NA.can {c : Nat} {s : (Nat → Nat) × Nat} {t0 : Nat → Int32} (h : NA u c s t0 a p w q d e t) (hA : s.2 < c) : AR (s5 s.1 (c - (s.2 + 1))) a p w q d e (upd t 5 (t 5 - 1)) ∧ ∀ i, 6 ≤ i → upd t 5 (t 5 - 1) i = t0 i := by
  refine ⟨h.1.num (fun k h1 h2 => ?_) (fun i hi => ?_), fun i hi => ?_⟩
  · rw [s5_n (by omega), s5_n (by omega)]
  · by_cases e : i = 5
    · subst e
      rw [upd_eq, s5_5, h.t5, li1, pk_sub (by omega), show c - s.2 - 1 = c - (s.2 + 1) by omega]
    · rw [upd_ne e, s5_n e]
      have g := h.1.2.2 i hi
      rw [s5_n e] at g
      exact g
  · rw [upd_ne (by omega)]; exact h.2.2.2.2 i hi
theorem wkc {x : Nat → Nat} {pp : Nat} (h0 : x pp = 0 ↔ x (pp + 1) = 0) : wkN x pp = 1 ↔ (x (pp + 1) ≠ 0 ∧ x (pp + 1) < 60) := by
  unfold wkN
  by_cases e0 : x pp = 0
  · rw [if_pos e0]; omega
  · rw [if_neg e0]
    by_cases e1 : 60 ≤ x (pp + 1)
    · rw [if_pos e1]; omega
    · rw [if_neg e1]; omega
theorem nfS_no {lim pp : Nat} {s : (Nat → Nat) × Nat} (h : ¬ (wkN s.1 pp = 1 ∧ s.2 < lim)) : nfS lim s pp = s := if_neg h
theorem nfS_yes {lim pp : Nat} {s : (Nat → Nat) × Nat} (h : wkN s.1 pp = 1 ∧ s.2 < lim) : nfS lim s pp = (set2 s.1 pp (s.1 pp) 100, s.2 + 1) := if_pos h
/-- a sign of the night in the law -/
theorem nightS {c k b : Nat} {s : (Nat → Nat) × Nat} {t0 : Nat → Int32} (h : NA u c s t0 a p w q d e t) (hk : k < 8) (hb : b < 16) (hc : c ≤ 99) (hs1 : u 1 ≤ 40) (P1 P2 : Int32) (v1 : Int32) (x1 x2 : TV48s) (x3 : TV32s) (x4 : TV10s) : ∃ p' q' e' t', (∀ k7 k34, f_L_night_l34 P1 P2 k7 (v1, nI b, x1, x2, x3, x4) k34 (nI s.2, nI k, p, q, e, t) = k34 (nI (nfS (if u 1 < c then u 1 else c) s (pl b k)).2, nI (k + 1), p', q', e', t')) ∧ NA u c (nfS (if u 1 < c then u 1 else c) s (pl b k)) t0 a p' w q' d e' t' := by
  obtain ⟨x, A⟩ := s
  have hA : A ≤ c := h.2.2.1
  have hu : UOk x := h.2.1
  have h5 := h.t5
  have h1 := h.t1
  simp only at h5
  have hlim : ∀ (z : Prop), (z ∧ A < (if u 1 < c then u 1 else c)) ↔ (z ∧ A < c ∧ A < u 1) := by
    intro z
    constructor
    · rintro ⟨z1, z2⟩
      refine ⟨z1, ?_⟩
      split at z2 <;> omega
    · rintro ⟨z1, z2⟩
      refine ⟨z1, ?_⟩
      split <;> omega
  generalize hL : (if u 1 < c then u 1 else c) = lim at hlim
  by_cases k3 : k < 3
  · -- words
    have hat : 16 * k + b < 48 := by omega
    have hp : pl b k = 14 + 4 * (16 * k + b) := by unfold pl; rw [if_pos k3]
    obtain ⟨f1, f2, f3, f4⟩ := h.1.1 (16 * k + b) hat
    rw [s5_n (by omega)] at f1 f2 f3 f4
    have g := hu.W hat
    have gA := hu.A hat
    have hw := wkc (x := x) (pp := 14 + 4 * (16 * k + b)) (by rw [show 14 + 4 * (16 * k + b) + 1 = 15 + 4 * (16 * k + b) by omega]; exact g.2.1)
    rw [show 14 + 4 * (16 * k + b) + 1 = 15 + 4 * (16 * k + b) by omega] at hw
    have start : ∀ k7 k34, f_L_night_l34 P1 P2 k7 (v1, nI b, x1, x2, x3, x4) k34 (nI A, nI k, p, q, e, t) = if (x (15 + 4 * (16 * k + b)) ≠ 0 ∧ x (15 + 4 * (16 * k + b)) < 60) ∧ A < c ∧ A < u 1 then k34 (nI (A + 1), nI (k + 1), upd p (16 * k + b) (p (16 * k + b)), upd q (16 * k + b) 100, e, upd t 5 (t 5 - 1)) else k34 (nI A, nI (k + 1), p, q, e, t) := by
      intro k7 k34
      unfold f_L_night_l34 f_L_night_j72
      simp only [li8, li6, li3, leN (show 8 < 2 ^ 31 by omega) (show k < 2 ^ 31 by omega), leN (show 6 < 2 ^ 31 by omega) (show k < 2 ^ 31 by omega), leN (show 3 < 2 ^ 31 by omega) (show k < 2 ^ 31 by omega), show ¬ 8 ≤ k by omega, show ¬ 6 ≤ k by omega, show ¬ 3 ≤ k by omega, ↓reduceIte, pk_rem (show k < 2 ^ 31 by omega) (show 0 < 3 by omega) (show 3 < 2 ^ 31 by omega), show k % 3 = k by omega, ix16', nI_clamp (show 16 * k + b < 2 ^ 31 by omega), g_in2 hat (show 48 < 2 ^ 31 by omega), f4]
      rw [night105 k34 hk g.1 hA hc hs1 h5 h1]
      simp only [li3, leN (show 3 < 2 ^ 31 by omega) (show k < 2 ^ 31 by omega), show ¬ 3 ≤ k by omega, ↓reduceIte]
      unfold f_L_night_j147 f_L_night_j169 f_L_night_j173 f_L_night_j186
      simp only [li3, li5, ltN (show k < 2 ^ 31 by omega) (show 3 < 2 ^ 31 by omega), leN (show k < 2 ^ 31 by omega) (show 5 < 2 ^ 31 by omega), k3, show k ≤ 5 by omega, nI_clamp (show 16 * k + b < 2 ^ 31 by omega), g_in2 hat (show 48 < 2 ^ 31 by omega), nI_clamp (show 5 < 2 ^ 31 by omega), g_in2 (show 5 < 10 by omega) (by omega), ↓reduceIte, nI_1]
    by_cases hy : (x (15 + 4 * (16 * k + b)) ≠ 0 ∧ x (15 + 4 * (16 * k + b)) < 60) ∧ A < c ∧ A < u 1
    · have hn : nfS lim (x, A) (pl b k) = (set2 x (14 + 4 * (16 * k + b)) (x (14 + 4 * (16 * k + b))) 100, A + 1) := by
        rw [hp]
        exact nfS_yes ((hlim _).mpr ⟨hw.mpr hy.1, hy.2⟩)
      obtain ⟨c1, c2⟩ := h.can (show A < c from hy.2.1)
      refine ⟨_, _, _, _, fun k7 k34 => by rw [start, if_pos hy, hn], ?_⟩
      rw [hn]
      refine ⟨c1.cell (i := 16 * k + b) (fun j hj hj2 => ?_) hat (fun j hj => ⟨rfl, upd_ne hj, rfl, upd_ne hj⟩) ?_ ?_ ?_ ?_, hu.setW hat (by omega) (by omega) (by omega), by omega, ?_, c2⟩
      · by_cases j5 : j = 5
        · rw [j5, s5_5, s5_5]
        · rw [s5_n j5, s5_n j5]; exact set2_n (by omega) (by omega)
      · rw [f1, s5_n (by omega)]; exact congrArg wv (set2_n (by omega) (by omega)).symm
      · rw [upd_eq, f2, s5_n (by omega)]; exact congrArg nI (set2_n (by omega) (by omega)).symm
      · rw [f3, s5_n (by omega)]; exact congrArg wv set2_0.symm
      · rw [upd_eq, s5_n (by omega), show 15 + 4 * (16 * k + b) = 14 + 4 * (16 * k + b) + 1 by omega]; exact congrArg nI (a₁ := 100) set2_1.symm
      · exact (set2_n (by omega) (by omega)).trans h.2.2.2.1
    · have hn : nfS lim (x, A) (pl b k) = (x, A) := by
        rw [hp]
        exact nfS_no (fun z => hy (by have z2 := (hlim _).mp z; exact ⟨hw.mp z2.1, z2.2⟩))
      refine ⟨p, q, e, t, fun k7 k34 => by rw [start, if_neg hy, hn], ?_⟩
      rw [hn]
      exact h
  · by_cases k6 : k < 6
    · -- arrows
      have hk3 : k % 3 = k - 3 := by omega
      have hat : 16 * (k - 3) + b < 48 := by omega
      have hp : pl b k = 12 + 4 * (16 * (k - 3) + b) := by unfold pl; rw [if_neg k3, if_pos k6]
      obtain ⟨f1, f2, f3, f4⟩ := h.1.1 (16 * (k - 3) + b) hat
      rw [s5_n (by omega)] at f1 f2 f3 f4
      have g := hu.A hat
      have hw := wkc (x := x) (pp := 12 + 4 * (16 * (k - 3) + b)) (by rw [show 12 + 4 * (16 * (k - 3) + b) + 1 = 13 + 4 * (16 * (k - 3) + b) by omega]; exact g.2.1)
      rw [show 12 + 4 * (16 * (k - 3) + b) + 1 = 13 + 4 * (16 * (k - 3) + b) by omega] at hw
      have start : ∀ k7 k34, f_L_night_l34 P1 P2 k7 (v1, nI b, x1, x2, x3, x4) k34 (nI A, nI k, p, q, e, t) = if (x (13 + 4 * (16 * (k - 3) + b)) ≠ 0 ∧ x (13 + 4 * (16 * (k - 3) + b)) < 60) ∧ A < c ∧ A < u 1 then k34 (nI (A + 1), nI (k + 1), upd p (16 * (k - 3) + b) 100, upd q (16 * (k - 3) + b) (q (16 * (k - 3) + b)), e, upd t 5 (t 5 - 1)) else k34 (nI A, nI (k + 1), p, q, e, t) := by
        intro k7 k34
        unfold f_L_night_l34 f_L_night_j72
        simp only [li8, li6, li3, leN (show 8 < 2 ^ 31 by omega) (show k < 2 ^ 31 by omega), leN (show 6 < 2 ^ 31 by omega) (show k < 2 ^ 31 by omega), leN (show 3 < 2 ^ 31 by omega) (show k < 2 ^ 31 by omega), show ¬ 8 ≤ k by omega, show ¬ 6 ≤ k by omega, show 3 ≤ k by omega, ↓reduceIte, pk_rem (show k < 2 ^ 31 by omega) (show 0 < 3 by omega) (show 3 < 2 ^ 31 by omega), hk3, ix16', nI_clamp (show 16 * (k - 3) + b < 2 ^ 31 by omega), g_in2 hat (show 48 < 2 ^ 31 by omega), f2]
        rw [night105 k34 hk g.1 hA hc hs1 h5 h1]
        simp only [li3, leN (show 3 < 2 ^ 31 by omega) (show k < 2 ^ 31 by omega), show 3 ≤ k by omega, nI_clamp (show 16 * (k - 3) + b < 2 ^ 31 by omega), g_in2 hat (show 48 < 2 ^ 31 by omega), ↓reduceIte]
        unfold f_L_night_j147 f_L_night_j173 f_L_night_j186
        simp only [li3, li5, li6, ltN (show k < 2 ^ 31 by omega) (show 3 < 2 ^ 31 by omega), leN (show k < 2 ^ 31 by omega) (show 5 < 2 ^ 31 by omega), leN (show 6 < 2 ^ 31 by omega) (show k < 2 ^ 31 by omega), k3, show k ≤ 5 by omega, show ¬ 6 ≤ k by omega, nI_clamp (show 16 * (k - 3) + b < 2 ^ 31 by omega), g_in2 hat (show 48 < 2 ^ 31 by omega), nI_clamp (show 5 < 2 ^ 31 by omega), g_in2 (show 5 < 10 by omega) (by omega), ↓reduceIte, nI_1]
      by_cases hy : (x (13 + 4 * (16 * (k - 3) + b)) ≠ 0 ∧ x (13 + 4 * (16 * (k - 3) + b)) < 60) ∧ A < c ∧ A < u 1
      · have hn : nfS lim (x, A) (pl b k) = (set2 x (12 + 4 * (16 * (k - 3) + b)) (x (12 + 4 * (16 * (k - 3) + b))) 100, A + 1) := by
          rw [hp]
          exact nfS_yes ((hlim _).mpr ⟨hw.mpr hy.1, hy.2⟩)
        obtain ⟨c1, c2⟩ := h.can (show A < c from hy.2.1)
        refine ⟨_, _, _, _, fun k7 k34 => by rw [start, if_pos hy, hn], ?_⟩
        rw [hn]
        refine ⟨c1.cell (i := 16 * (k - 3) + b) (fun j hj hj2 => ?_) hat (fun j hj => ⟨rfl, upd_ne hj, rfl, upd_ne hj⟩) ?_ ?_ ?_ ?_, hu.setA hat (by omega) (by omega) (by omega), by omega, ?_, c2⟩
        · by_cases j5 : j = 5
          · rw [j5, s5_5, s5_5]
          · rw [s5_n j5, s5_n j5]; exact set2_n (by omega) (by omega)
        · rw [f1, s5_n (by omega)]; exact congrArg wv set2_0.symm
        · rw [upd_eq, s5_n (by omega), show 13 + 4 * (16 * (k - 3) + b) = 12 + 4 * (16 * (k - 3) + b) + 1 by omega]; exact congrArg nI (a₁ := 100) set2_1.symm
        · rw [f3, s5_n (by omega)]; exact congrArg wv (set2_n (by omega) (by omega)).symm
        · rw [upd_eq, f4, s5_n (by omega)]; exact congrArg nI (set2_n (by omega) (by omega)).symm
        · exact (set2_n (by omega) (by omega)).trans h.2.2.2.1
      · have hn : nfS lim (x, A) (pl b k) = (x, A) := by
          rw [hp]
          exact nfS_no (fun z => hy (by have z2 := (hlim _).mp z; exact ⟨hw.mp z2.1, z2.2⟩))
        refine ⟨p, q, e, t, fun k7 k34 => by rw [start, if_neg hy, hn], ?_⟩
        rw [hn]
        exact h
    · -- dashes
      have hat : 16 * (k - 6) + b < 32 := by omega
      have hat4 : 16 * (k - 6) + b < 48 := by omega
      have hp : pl b k = 204 + 2 * (16 * (k - 6) + b) := by unfold pl; rw [if_neg k3, if_neg k6]
      obtain ⟨f1, f2⟩ := h.1.2.1 (16 * (k - 6) + b) hat
      obtain ⟨z1, z2, z3, z4⟩ := h.1.1 (16 * (k - 6) + b) hat4
      rw [s5_n (by omega)] at f1 f2 z2 z4
      have g := hu.D hat
      have hw := wkc (x := x) (pp := 204 + 2 * (16 * (k - 6) + b)) (by rw [show 204 + 2 * (16 * (k - 6) + b) + 1 = 205 + 2 * (16 * (k - 6) + b) by omega]; exact g.2.1)
      rw [show 204 + 2 * (16 * (k - 6) + b) + 1 = 205 + 2 * (16 * (k - 6) + b) by omega] at hw
      have start : ∀ k7 k34, f_L_night_l34 P1 P2 k7 (v1, nI b, x1, x2, x3, x4) k34 (nI A, nI k, p, q, e, t) = if (x (205 + 2 * (16 * (k - 6) + b)) ≠ 0 ∧ x (205 + 2 * (16 * (k - 6) + b)) < 60) ∧ A < c ∧ A < u 1 then k34 (nI (A + 1), nI (k + 1), upd p (16 * (k - 6) + b) (p (16 * (k - 6) + b)), upd q (16 * (k - 6) + b) (q (16 * (k - 6) + b)), upd e (16 * (k - 6) + b) 100, upd t 5 (t 5 - 1)) else k34 (nI A, nI (k + 1), p, q, e, t) := by
        intro k7 k34
        unfold f_L_night_l34 f_L_night_j72
        simp only [li8, li6, li3, leN (show 8 < 2 ^ 31 by omega) (show k < 2 ^ 31 by omega), leN (show 6 < 2 ^ 31 by omega) (show k < 2 ^ 31 by omega), leN (show 3 < 2 ^ 31 by omega) (show k < 2 ^ 31 by omega), show ¬ 8 ≤ k by omega, show 6 ≤ k by omega, show 3 ≤ k by omega, ↓reduceIte, pk_sub (show 6 ≤ k by omega), ix16', nI_clamp (show 16 * (k - 6) + b < 2 ^ 31 by omega), g_in2 hat (show 32 < 2 ^ 31 by omega), f2]
        rw [night105 k34 hk g.1 hA hc hs1 h5 h1]
        simp only [li3, leN (show 3 < 2 ^ 31 by omega) (show k < 2 ^ 31 by omega), show 3 ≤ k by omega, nI_clamp (show 16 * (k - 6) + b < 2 ^ 31 by omega), g_in2 hat4 (show 48 < 2 ^ 31 by omega), ↓reduceIte]
        unfold f_L_night_j147 f_L_night_j169 f_L_night_j173 f_L_night_j186
        simp only [li3, li5, li6, ltN (show k < 2 ^ 31 by omega) (show 3 < 2 ^ 31 by omega), leN (show k < 2 ^ 31 by omega) (show 5 < 2 ^ 31 by omega), leN (show 6 < 2 ^ 31 by omega) (show k < 2 ^ 31 by omega), k3, show ¬ k ≤ 5 by omega, show 6 ≤ k by omega, nI_clamp (show 16 * (k - 6) + b < 2 ^ 31 by omega), g_in2 hat4 (show 48 < 2 ^ 31 by omega), g_in2 hat (show 32 < 2 ^ 31 by omega), nI_clamp (show 5 < 2 ^ 31 by omega), g_in2 (show 5 < 10 by omega) (by omega), ↓reduceIte, nI_1]
      by_cases hy : (x (205 + 2 * (16 * (k - 6) + b)) ≠ 0 ∧ x (205 + 2 * (16 * (k - 6) + b)) < 60) ∧ A < c ∧ A < u 1
      · have hn : nfS lim (x, A) (pl b k) = (set2 x (204 + 2 * (16 * (k - 6) + b)) (x (204 + 2 * (16 * (k - 6) + b))) 100, A + 1) := by
          rw [hp]
          exact nfS_yes ((hlim _).mpr ⟨hw.mpr hy.1, hy.2⟩)
        obtain ⟨c1, c2⟩ := h.can (show A < c from hy.2.1)
        have c3 : AR (s5 x (c - (A + 1))) a (upd p (16 * (k - 6) + b) (p (16 * (k - 6) + b))) w (upd q (16 * (k - 6) + b) (q (16 * (k - 6) + b))) d e (upd t 5 (t 5 - 1)) := by
          rw [fa_same, fa_same]
          exact c1
        refine ⟨_, _, _, _, fun k7 k34 => by rw [start, if_pos hy, hn], ?_⟩
        rw [hn]
        refine ⟨c3.line (i := 16 * (k - 6) + b) (fun j hj hj2 => ?_) hat (fun j hj => ⟨rfl, upd_ne hj⟩) ?_ ?_, hu.setD hat (by omega) (by omega) (by omega), by omega, ?_, c2⟩
        · by_cases j5 : j = 5
          · rw [j5, s5_5, s5_5]
          · rw [s5_n j5, s5_n j5]; exact set2_n (by omega) (by omega)
        · rw [f1, s5_n (by omega)]; exact congrArg nI set2_0.symm
        · rw [upd_eq, s5_n (by omega), show 205 + 2 * (16 * (k - 6) + b) = 204 + 2 * (16 * (k - 6) + b) + 1 by omega]; exact congrArg nI (a₁ := 100) set2_1.symm
        · exact (set2_n (by omega) (by omega)).trans h.2.2.2.1
      · have hn : nfS lim (x, A) (pl b k) = (x, A) := by
          rw [hp]
          exact nfS_no (fun z => hy (by have z2 := (hlim _).mp z; exact ⟨hw.mp z2.1, z2.2⟩))
        refine ⟨p, q, e, t, fun k7 k34 => by rw [start, if_neg hy, hn], ?_⟩
        rw [hn]
        exact h
/-- a mile of the night in the law -/
theorem nightM {c b : Nat} {s : (Nat → Nat) × Nat} {t0 : Nat → Int32} (h : NA u c s t0 a p w q d e t) (hb : b < 16) (hc : c ≤ 99) (hs1 : u 1 ≤ 40) (P1 P2 : Int32) (k7 : TN → Option TM) : ∃ p' q' e' t', f_L_night_j31 P1 P2 k7 (nI s.2, nI b, p, q, e, t) () = k7 (nI (nf (if u 1 < c then u 1 else c) b s 8).2, (if P2 < P1 then nI b + (-1) else nI b + 1), p', q', e', t') ∧ NA u c (nf (if u 1 < c then u 1 else c) b s 8) t0 a p' w q' d e' t' := by
  unfold f_L_night_j31
  obtain ⟨⟨w1, w2, p', q', e', t'⟩, m, ⟨e1, e2, e3⟩, e4⟩ := lp_for1 (f_L_night_l34 P1 P2 k7 (nI s.2, nI b, p, q, e, t)) (fun j v => v.1 = nI (nf (if u 1 < c then u 1 else c) b s j).2 ∧ v.2.1 = nI j ∧ NA u c (nf (if u 1 < c then u 1 else c) b s j) t0 a v.2.2.1 w v.2.2.2.1 d v.2.2.2.2.1 v.2.2.2.2.2) 8 (by
    rintro j hj ⟨w1, w2, p', q', e', t'⟩ ⟨e1, e2, e3⟩
    simp only at e1 e2 e3
    subst e1 e2
    obtain ⟨p2, q2, e2, t2, g1, g2⟩ := nightS e3 hj hb hc hs1 P1 P2 (nI s.2) p q e t
    exact ⟨(_, _, p2, q2, e2, t2), ⟨rfl, rfl, g2⟩, fun k => g1 k7 k⟩) (a := (nI s.2, 0, p, q, e, t)) ⟨rfl, rfl, h⟩ (by omega)
  simp only at e1 e2 e3
  subst e1 e2
  refine ⟨p', q', e', t', ?_, e3⟩
  rw [e4]
  unfold f_L_night_l34
  rw [if_pos (show (8 : Int32) ≤ nI 8 by decide)]
  split <;> rfl
end NL
