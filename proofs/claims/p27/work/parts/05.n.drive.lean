/-! driving along -/
/-- costs: 1000 stands for no way -/
def bnd (c : Nat → Nat) (K : Nat) : Prop := ∀ k, k < 3 → c k = 1000 ∨ c k ≤ K
theorem rx_bnd {e : Bool} {i j K : Nat} {c : Nat → Nat} (h : bnd c K) (hi : i < 3) (hj : j < 3) (hK : K < 999) : bnd (rx e i j c) (K + 1) := by
  intro k hk
  have h1 := h i hi
  have h2 := h j hj
  have h3 := h k hk
  unfold rx
  split
  · split
    · omega
    · omega
  · omega
theorem rnd_bnd {e01 e10 e12 e21 : Bool} {K : Nat} {c : Nat → Nat} (h : bnd c K) (hK : K < 990) : bnd (rnd e01 e10 e12 e21 c) (K + 4) :=
  rx_bnd (rx_bnd (rx_bnd (rx_bnd h (by omega) (by omega) (by omega)) (by omega) (by omega) (by omega)) (by omega) (by omega) (by omega)) (by omega) (by omega) (by omega)
def cst (v : Nat) : Int32 := if v = 1000 then -6 else nI v
def CA (x : TX0s) (c : Nat → Nat) : Prop := ∀ k, k < 3 → x k = nI (c k)
def CB (f : Nat → Int32) (c : Nat → Nat) : Prop := ∀ k, k < 3 → f k = cst (c k)
def setC (y : TX6s) (f : Nat → Int32) : TX6s := (y.1, y.2.1, y.2.2.1, y.2.2.2.1, y.2.2.2.2.1, y.2.2.2.2.2.1, y.2.2.2.2.2.2.1, f, y.2.2.2.2.2.2.2.2)
section LF
variable {u : Nat → Nat} {r : TX3s} {y : TX6s}
theorem change5 (hr : RdU u r) (hu : UOk u) {x : TX0s} {c : Nat → Nat} {K : Nat} (hx : CA x c) (hc : bnd c K) (hK : K < 999) {i j b d : Nat} (hi : i < 3) (hj : j < 3) (hij : i ≠ j) (hb : b < 16) (hd : d < 2) : ∃ x', f_X0_changeLane x r (nI i) (nI j) (nI b) (nI d) = some x' ∧ CA x' (rx (okC u i j b d) i j c) := by
  have h1 := hc i hi
  have h2 := hc j hj
  unfold f_X0_changeLane
  simp only [nI_clamp (show i < 2 ^ 31 by omega), nI_clamp (show j < 2 ^ 31 by omega), g_in2 hi (by omega), g_in2 hj (by omega), ↓reduceIte, hx i hi, hx j hj, li1000, leN (show 1000 < 2 ^ 31 by omega) (show c i < 2 ^ 31 by omega), allows_u hr hu hi hj hij hb hd, Option.bind_some, nI_1, ltN (show c i + 1 < 2 ^ 31 by omega) (show c j < 2 ^ 31 by omega)]
  by_cases h3 : 1000 ≤ c i
  · rw [if_pos h3]
    refine ⟨x, rfl, fun k hk => ?_⟩
    by_cases hkj : k = j
    · subst hkj
      rw [rx_j, hx k hk]
      split
      · rw [show min (c i + 1) (c k) = c k by omega]
      · rfl
    · rw [rx_n hkj, hx k hk]
  · rw [if_neg h3]
    by_cases h4 : okC u i j b d = true
    · simp only [if_pos h4, show ¬ (1 : Int32) = 0 by decide, ↓reduceIte]
      refine ⟨_, rfl, fun k hk => ?_⟩
      by_cases hkj : k = j
      · subst hkj
        rw [rx_j, upd_eq, if_pos h4]
        by_cases h5 : c i + 1 < c k
        · rw [if_pos h5, show min (c i + 1) (c k) = c i + 1 by omega]
        · rw [if_neg h5, show min (c i + 1) (c k) = c k by omega]
      · rw [rx_n hkj, upd_ne hkj, hx k hk]
    · simp only [if_neg h4, ↓reduceIte]
      refine ⟨x, rfl, fun k hk => ?_⟩
      by_cases hkj : k = j
      · subst hkj
        rw [rx_j, if_neg h4, hx k hk]
      · rw [rx_n hkj, hx k hk]
theorem lanes5 (hr : RdU u r) (hu : UOk u) {x : TX0s} {c : Nat → Nat} {K : Nat} (hx : CA x c) (hc : bnd c K) (hK : K < 990) {b d : Nat} (hb : b < 16) (hd : d < 2) : ∃ x', f_X0_changeLanes x r (nI b) (nI d) = some x' ∧ CA x' (fou (okC u 0 1 b d) (okC u 1 0 b d) (okC u 1 2 b d) (okC u 2 1 b d) c) := by
  have B1 := rx_bnd (e := okC u 0 1 b d) (i := 0) (j := 1) hc (by omega) (by omega) (by omega)
  have B2 := rx_bnd (e := okC u 1 2 b d) (i := 1) (j := 2) B1 (by omega) (by omega) (by omega)
  have B3 := rx_bnd (e := okC u 2 1 b d) (i := 2) (j := 1) B2 (by omega) (by omega) (by omega)
  obtain ⟨x1, e1, h1⟩ := change5 hr hu hx hc (by omega) (show 0 < 3 by omega) (show 1 < 3 by omega) (by omega) hb hd
  obtain ⟨x2, e2, h2⟩ := change5 hr hu h1 B1 (by omega) (show 1 < 3 by omega) (show 2 < 3 by omega) (by omega) hb hd
  obtain ⟨x3, e3, h3⟩ := change5 hr hu h2 B2 (by omega) (show 2 < 3 by omega) (show 1 < 3 by omega) (by omega) hb hd
  obtain ⟨x4, e4, h4⟩ := change5 hr hu h3 B3 (by omega) (show 1 < 3 by omega) (show 0 < 3 by omega) (by omega) hb hd
  refine ⟨x4, ?_, h4⟩
  have s0 : ∀ k, f_X0_changeLanes_l3 r (nI b) (nI d) k (0, x) = k (nI 1, x1) := by
    intro k
    unfold f_X0_changeLanes_l3
    rw [if_neg (show ¬ (3 : Int32) ≤ 0 + 1 by decide)]
    show (f_X0_changeLane x r (nI 0) (nI 1) (nI b) (nI d)).bind _ = _
    rw [e1]; rfl
  have s1 : ∀ k, f_X0_changeLanes_l3 r (nI b) (nI d) k (nI 1, x1) = k (nI 2, x2) := by
    intro k
    unfold f_X0_changeLanes_l3
    rw [if_neg (show ¬ (3 : Int32) ≤ nI 1 + 1 by decide)]
    show (f_X0_changeLane x1 r (nI 1) (nI 2) (nI b) (nI d)).bind _ = _
    rw [e2]; rfl
  have s2 : ∀ k, f_X0_changeLanes_l3 r (nI b) (nI d) k (nI 2, x2) = lpN (f_X0_changeLanes_l33 r (nI b) (nI d)) 3000 (nI 2, x2) := by
    intro k
    unfold f_X0_changeLanes_l3
    rw [if_pos (show (3 : Int32) ≤ nI 2 + 1 by decide)]
    rfl
  have t2 : ∀ k, f_X0_changeLanes_l33 r (nI b) (nI d) k (nI 2, x2) = k (nI 1, x3) := by
    intro k
    unfold f_X0_changeLanes_l33
    rw [if_neg (show ¬ nI 2 ≤ (0 : Int32) by decide)]
    show (f_X0_changeLane x2 r (nI 2) (nI 2 - 1) (nI b) (nI d)).bind (fun t3 => k (nI 2 + -1, t3)) = _
    rw [show nI 2 - 1 = nI 1 by decide, show nI 2 + -1 = nI 1 by decide, e3]; rfl
  have t1 : ∀ k, f_X0_changeLanes_l33 r (nI b) (nI d) k (nI 1, x3) = k (nI 0, x4) := by
    intro k
    unfold f_X0_changeLanes_l33
    rw [if_neg (show ¬ nI 1 ≤ (0 : Int32) by decide)]
    show (f_X0_changeLane x3 r (nI 1) (nI 1 - 1) (nI b) (nI d)).bind (fun t3 => k (nI 1 + -1, t3)) = _
    rw [show nI 1 - 1 = nI 0 by decide, show nI 1 + -1 = nI 0 by decide, e4]; rfl
  have t0 : ∀ k, f_X0_changeLanes_l33 r (nI b) (nI d) k (nI 0, x4) = some x4 := by
    intro k
    unfold f_X0_changeLanes_l33
    rw [if_pos (show nI 0 ≤ (0 : Int32) by decide)]
  unfold f_X0_changeLanes
  rw [lp3000, s0, lp2999, s1, lp2998, s2, lp3000, t2, lp2999, t1, lp2998, t0]
theorem change6 (hz : ZU u y.1) (hu : UOk u) {f : Nat → Int32} {c : Nat → Nat} {K : Nat} (hf : CB f c) (hc : bnd c K) (hK : K < 999) {i j b d : Nat} (hi : i < 3) (hj : j < 3) (hij : i = j + 1 ∨ j = i + 1) (hb : b < 16) (hd : d < 2) : ∃ f', (∀ k133 yy k, f_X6_fewestChanges_l145 (nI d) (nI b) k133 (nI i, yy) k (nI j, setC y f) = k (nI j + 2, setC y f')) ∧ CB f' (rx (okC u i j b d) i j c) := by
  have h1 := hc i hi
  have h2 := hc j hj
  have hcc : f_X6_canChange (setC y f) (nI i) (nI j) (nI b) (nI d) = some (if okC u i j b d = true then 1 else 0) := canChange_u (y := setC y f) hz hu hi hj (by omega) hb hd
  have head : ∀ k133 yy k, f_X6_fewestChanges_l145 (nI d) (nI b) k133 (nI i, yy) k (nI j, setC y f) = if cst (c i) = -6 then k (nI j + 2, setC y f) else if okC u i j b d = true then (if cst (c j) = -6 then k (nI j + 2, setC y (upd f j (cst (c i) + 1))) else if cst (c j) ≤ cst (c i) + 1 then k (nI j + 2, setC y f) else k (nI j + 2, setC y (upd f j (cst (c i) + 1)))) else k (nI j + 2, setC y f) := by
    intro k133 yy k
    have q1 : (setC y f).2.2.2.2.2.2.2.1 = f := rfl
    unfold f_X6_fewestChanges_l145 f_X6_fewestChanges_j194 f_X6_fewestChanges_j195 f_X6_fewestChanges_j233
    rw [if_neg (by show ¬ nI i + 1 < nI j; rw [nI_1, nI_ltI (by omega) (by omega)]; omega)]
    rw [in_yes li0 li2 (by omega) (by omega) (by omega), Option.bind_some, if_neg (by decide)]
    simp only [q1, hcc, nI_clamp (show i < 2 ^ 31 by omega), nI_clamp (show j < 2 ^ 31 by omega), g_in2 hi (by omega), g_in2 hj (by omega), ↓reduceIte, hf i hi, hf j hj, Option.bind_some]
    by_cases h4 : okC u i j b d = true
    · simp only [if_pos h4, show ¬ (1 : Int32) = 0 by decide, ↓reduceIte]
      rfl
    · simp only [if_neg h4, ↓reduceIte]
  have c6 : ∀ v, v ≤ 1000 → (cst v = -6) = (v = 1000) := by
    intro v hv
    unfold cst
    by_cases e : v = 1000
    · rw [if_pos e]; simp [e]
    · rw [if_neg e, nI_ne6 (by omega)]; simp [e]
  simp only [c6 (c i) (by omega), c6 (c j) (by omega)] at head
  have nochange : (c i = 1000 ∨ ¬ okC u i j b d = true ∨ c j ≤ c i + 1) → CB f (rx (okC u i j b d) i j c) := by
    intro h k hk
    by_cases hkj : k = j
    · subst hkj
      rw [rx_j, hf k hk]
      split
      · rename_i ho
        have hm : min (c i + 1) (c k) = c k := by
          rcases h with h | h | h
          · omega
          · exact absurd ho h
          · omega
        rw [hm]
      · rfl
    · rw [rx_n hkj, hf k hk]
  have change : c i ≠ 1000 → okC u i j b d = true → c i + 1 < c j ∨ c j = 1000 → CB (upd f j (nI (c i + 1))) (rx (okC u i j b d) i j c) := by
    intro g1 g2 g3 k hk
    by_cases hkj : k = j
    · subst hkj
      rw [rx_j, if_pos g2, upd_eq, show min (c i + 1) (c k) = c i + 1 by omega]
      unfold cst
      rw [if_neg (by omega)]
    · rw [rx_n hkj, upd_ne hkj, hf k hk]
  by_cases h3 : c i = 1000
  · exact ⟨f, fun k133 yy k => by rw [head, if_pos h3], nochange (Or.inl h3)⟩
  · have e3 : cst (c i) + 1 = nI (c i + 1) := by unfold cst; rw [if_neg h3, nI_1]
    rw [e3] at head
    by_cases h4 : okC u i j b d = true
    · by_cases h5 : c j = 1000
      · exact ⟨_, fun k133 yy k => by rw [head, if_neg h3, if_pos h4, if_pos h5], change h3 h4 (Or.inr h5)⟩
      · have e5 : (cst (c j) ≤ nI (c i + 1)) = (c j ≤ c i + 1) := by unfold cst; rw [if_neg h5, leN (by omega) (by omega)]
        by_cases h6 : c j ≤ c i + 1
        · exact ⟨f, fun k133 yy k => by rw [head, if_neg h3, if_pos h4, if_neg h5, if_pos (by rw [e5]; exact h6)], nochange (Or.inr (Or.inr h6))⟩
        · exact ⟨_, fun k133 yy k => by rw [head, if_neg h3, if_pos h4, if_neg h5, if_neg (by rw [e5]; exact h6)], change h3 h4 (Or.inl (by omega))⟩
    · exact ⟨f, fun k133 yy k => by rw [head, if_neg h3, if_neg h4], nochange (Or.inr (Or.inl h4))⟩
end LF
