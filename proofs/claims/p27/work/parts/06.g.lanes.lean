/-! drives: what the class's fewest changes are, mile by mile -/
def fo (u : Nat → Nat) (b d : Nat) (c : Nat → Nat) : Nat → Nat := fou (okC u 0 1 b d) (okC u 1 0 b d) (okC u 1 2 b d) (okC u 2 1 b d) (ent u b d c)
def mlD (d i : Nat) : Nat := if d = 0 then i else 15 - i
def dp (u : Nat → Nat) (d l : Nat) : Nat → Nat → Nat
  | 0 => fun k => if k = l then 0 else 1000
  | i + 1 => fo u (mlD d i) d (dp u d l i)
theorem fou_cl {e01 e10 e12 e21 : Bool} {c : Nat → Nat} : (e01 = true → fou e01 e10 e12 e21 c 1 ≤ fou e01 e10 e12 e21 c 0 + 1) ∧ (e10 = true → fou e01 e10 e12 e21 c 0 ≤ fou e01 e10 e12 e21 c 1 + 1) ∧ (e12 = true → fou e01 e10 e12 e21 c 2 ≤ fou e01 e10 e12 e21 c 1 + 1) ∧ (e21 = true → fou e01 e10 e12 e21 c 1 ≤ fou e01 e10 e12 e21 c 2 + 1) ∧ fou e01 e10 e12 e21 c 0 ≤ c 0 ∧ fou e01 e10 e12 e21 c 1 ≤ c 1 ∧ fou e01 e10 e12 e21 c 2 ≤ c 2 := by
  have h0 := @fou_0 e01 e10 e12 e21 c
  have h1 := @fou_1 e01 e10 e12 e21 c
  have h2 := @fou_2 e01 e10 e12 e21 c
  rw [rnd_2] at h2
  rw [rnd_1, rnd_2] at h1
  generalize fou e01 e10 e12 e21 c 0 = F0 at *
  generalize fou e01 e10 e12 e21 c 1 = F1 at *
  generalize fou e01 e10 e12 e21 c 2 = F2 at *
  generalize c 0 = c0 at *
  generalize c 1 = c1 at *
  generalize c 2 = c2 at *
  cases e01 <;> cases e10 <;> cases e12 <;> cases e21 <;> simp only [↓reduceIte, Bool.false_eq_true, false_implies, true_implies, true_and] at * <;> omega
theorem fo_le {u : Nat → Nat} {b d k : Nat} {c : Nat → Nat} (hk : k < 3) : fo u b d c k ≤ ent u b d c k := by
  obtain ⟨_, _, _, _, h0, h1, h2⟩ := @fou_cl (okC u 0 1 b d) (okC u 1 0 b d) (okC u 1 2 b d) (okC u 2 1 b d) (ent u b d c)
  have h : k = 0 ∨ k = 1 ∨ k = 2 := by omega
  rcases h with rfl | rfl | rfl
  · exact h0
  · exact h1
  · exact h2
theorem fo_cl {u : Nat → Nat} {b d k g : Nat} {c : Nat → Nat} (hk : k < 3) (hg : g < 3) (hkg : g = k + 1 ∨ g + 1 = k) (ho : okC u k g b d = true) : fo u b d c g ≤ fo u b d c k + 1 := by
  obtain ⟨h1, h2, h3, h4, _⟩ := @fou_cl (okC u 0 1 b d) (okC u 1 0 b d) (okC u 1 2 b d) (okC u 2 1 b d) (ent u b d c)
  have h : (k = 0 ∧ g = 1) ∨ (k = 1 ∧ g = 0) ∨ (k = 1 ∧ g = 2) ∨ (k = 2 ∧ g = 1) := by omega
  rcases h with ⟨rfl, rfl⟩ | ⟨rfl, rfl⟩ | ⟨rfl, rfl⟩ | ⟨rfl, rfl⟩
  · exact h1 ho
  · exact h2 ho
  · exact h3 ho
  · exact h4 ho
theorem fou_bnd {e01 e10 e12 e21 : Bool} {K : Nat} {c : Nat → Nat} (h : bnd c K) (hK : K < 990) : bnd (fou e01 e10 e12 e21 c) (K + 4) :=
  rx_bnd (rx_bnd (rx_bnd (rx_bnd h (by omega) (by omega) (by omega)) (by omega) (by omega) (by omega)) (by omega) (by omega) (by omega)) (by omega) (by omega) (by omega)
theorem dp_bnd {u : Nat → Nat} {d l : Nat} : ∀ i, i ≤ 16 → bnd (dp u d l i) (4 * i) := by
  intro i
  induction i with
  | zero =>
    intro _ k hk
    by_cases h : k = l
    · exact Or.inr (Nat.le_of_eq (if_pos h))
    · exact Or.inl (if_neg h)
  | succ i ih =>
    intro hi
    have h := ih (by omega)
    exact fou_bnd (K := 4 * i) (ent_bnd h) (by omega)
section LC
variable {u : Nat → Nat} {r : TX3s} {x : TX5s}
theorem mileF (hr : RdU u r) (hu : UOk u) {z : TX0s} {c : Nat → Nat} {K : Nat} (hx : CA z c) (hc : bnd c K) (hK : K < 900) {b d : Nat} (hb : b < 16) (hd : d < 2) : ∃ z', (∀ k38 i, f_X0_driveAlong_j59 r (nI d) k38 (i, z) (nI b) = k38 (i + 1, z')) ∧ CA z' (fo u b d c) := by
  obtain ⟨x1, e1, h1⟩ := enter5 hr hu hx hb hd
  obtain ⟨x2, e2, h2⟩ := lanes5 hr hu h1 (ent_bnd hc) (by omega) hb hd
  refine ⟨x2, fun k38 i => ?_, h2⟩
  unfold f_X0_driveAlong_j59
  rw [e1, Option.bind_some, e2, Option.bind_some]
/-- the class's drive -/
theorem driveC (hr : RdU u r) (hu : UOk u) (dr : TX0s) {d l : Nat} (hd : d < 2) (hl : l < 3) : ∃ dr', f_X0_driveAlong dr r (nI d) (nI l) = some (cst (mn (dp u d l 16) 3), dr') := by
  unfold f_X0_driveAlong
  obtain ⟨⟨a1, a2⟩, m, ⟨e3, e4⟩, q5⟩ := lp_for1 (f_X0_driveAlong_l3 r (nI d) (nI l)) (fun j a => a.1 = nI j ∧ ∀ k, k < j → k < 3 → a.2 k = nI (if k = l then 0 else 1000)) 3 (by
    rintro j hj ⟨a1, a2⟩ ⟨e1, e2⟩
    simp only at e1 e2
    subst e1
    refine ⟨(nI (j + 1), if j = l then upd a2 j 0 else upd a2 j 1000), ⟨rfl, fun k hk hk3 => ?_⟩, fun k => ?_⟩
    · by_cases hkj : k = j
      · subst hkj
        by_cases h : k = l
        · simp only [if_pos h, upd_eq]; rfl
        · simp only [if_neg h, upd_eq]; rfl
      · have h2 := e2 k (by omega) hk3
        by_cases h : j = l
        · simp only [if_pos h, upd_ne hkj, h2]
        · simp only [if_neg h, upd_ne hkj, h2]
    · unfold f_X0_driveAlong_l3
      rw [if_neg (by show ¬ (3 : Int32) ≤ nI j; rw [li3, nI_leI (by omega) (by omega)]; omega)]
      simp only [eqN (show j < 2 ^ 31 by omega) (show l < 2 ^ 31 by omega), nI_clamp (show j < 2 ^ 31 by omega), g_in2 hj (by omega), ↓reduceIte, nI_1]
      by_cases h : j = l
      · simp only [if_pos h]
      · simp only [if_neg h]) (a := (0, dr)) ⟨rfl, fun k hk => by omega⟩ (by omega)
  simp only at e3 e4
  subst e3
  rw [q5]
  unfold f_X0_driveAlong_l3
  rw [if_pos (show (3 : Int32) ≤ nI 3 by decide)]
  refine lpN_rule (f_X0_driveAlong_l38 r (nI d)) (fun _ res => ∃ dr', res = some (cst (mn (dp u d l 16) 3), dr')) (fun v => ∃ j, j ≤ 16 ∧ v.1 = nI j ∧ CA v.2 (dp u d l j)) (fun v => 16 - v.1.toNatClampNeg) ?_ 3000 (0, a2) ⟨0, by omega, rfl, fun k hk => e4 k (by omega) hk⟩ (by show 16 - (0 : Int32).toNatClampNeg < 3000; omega)
  rintro k1 ⟨v1, v2⟩ ⟨j, hj, e1, e2⟩ hk
  simp only at e1 e2
  subst e1
  have hB := @dp_bnd u d l j hj
  by_cases h16 : j = 16
  · subst h16
    unfold f_X0_driveAlong_l38
    rw [if_pos (show (16 : Int32) ≤ nI 16 by decide), last5 e2 hB (by omega)]
    exact ⟨_, rfl⟩
  · have key : ∀ b, b = mlD d j → b < 16 → ∃ dr', f_X0_driveAlong_j59 r (nI d) k1 (nI j, v2) (nI b) = some (cst (mn (dp u d l 16) 3), dr') := by
      intro b hbe hb
      obtain ⟨x', q1, q2⟩ := mileF hr hu e2 hB (by omega) hb hd
      rw [q1]
      refine hk _ ⟨j + 1, by omega, nI_1 j, ?_⟩ ?_
      · show CA x' (fo u (mlD d j) d (dp u d l j))
        rw [← hbe]; exact q2
      · show 16 - (nI j + 1).toNatClampNeg < 16 - (nI j).toNatClampNeg
        rw [nI_1, nI_clamp (by omega), nI_clamp (by omega)]; omega
    unfold f_X0_driveAlong_l38
    have n16 : ¬ (16 : Int32) ≤ nI j := by rw [li16, nI_leI (by omega) (by omega)]; omega
    simp only [n16, ↓reduceIte, eq0 (show d < 2 ^ 31 by omega)]
    by_cases h0 : d = 0
    · simp only [if_pos h0]
      exact key j (by unfold mlD; rw [if_pos h0]) (by omega)
    · simp only [if_neg h0]
      rw [li15, pk_sub (by omega)]
      exact key (15 - j) (by unfold mlD; rw [if_neg h0]) (by omega)
theorem fewestC (hr : RdU u x.1) (hu : UOk u) {d l : Nat} (hd : d < 2) (hl : l < 3) : ∃ dr', f_X5_fewestChanges x (nI d) (nI l) = some (cst (mn (dp u d l 16) 3), (x.1, x.2.1, x.2.2.1, x.2.2.2.1, x.2.2.2.2.1, dr')) := by
  obtain ⟨dr', e⟩ := driveC hr hu x.2.2.2.2.2 hd hl
  refine ⟨dr', ?_⟩
  unfold f_X5_fewestChanges
  rw [isW, isW, in_yes li0 li2 (by omega) (show l ≤ 2 by omega) (by omega), in_yes li0 li1 (by omega) (show d ≤ 1 by omega) (by omega)]
  simp only [Option.bind_some, show ¬ (1 : Int32) = 0 by decide, ↓reduceIte, e]
end LC
/-! the law's numbers -/
def Bv (u : Nat → Nat) (d l j : Nat) : Nat := min (dp u d l (mlD d (j % 16) + 1) (j / 16)) 99
def edge (u : Nat → Nat) (d s t w : Nat) : Prop := (w = 0 ∧ ∃ n, n < 16 ∧ ((d = 0 ∧ n = s % 16 + 1) ∨ (d = 1 ∧ n + 1 = s % 16)) ∧ frB u (s / 16) n d = true ∧ t = 16 * (s / 16) + n) ∨ (w = 1 ∧ ∃ g, g < 3 ∧ (g = s / 16 + 1 ∨ g + 1 = s / 16) ∧ okC u (s / 16) g (s % 16) d = true ∧ t = 16 * g + s % 16)
theorem edge_B {u : Nat → Nat} {d l s t w : Nat} (hd : d < 2) (hs : s < 48) (h : edge u d s t w) : t < 48 ∧ Bv u d l t ≤ Bv u d l s + w := by
  rcases h with ⟨rfl, n, hn, hx, hf, rfl⟩ | ⟨rfl, g, hg, hx, ho, rfl⟩
  · refine ⟨by omega, ?_⟩
    unfold Bv
    rw [show (16 * (s / 16) + n) % 16 = n by omega, show (16 * (s / 16) + n) / 16 = s / 16 by omega]
    have e1 : mlD d n = mlD d (s % 16) + 1 := by
      unfold mlD
      rcases hx with ⟨rfl, hx⟩ | ⟨rfl, hx⟩
      · rw [if_pos rfl, if_pos rfl]; exact hx
      · rw [if_neg (by omega), if_neg (by omega)]; omega
    have e2 : mlD d (mlD d (s % 16) + 1) = n := by
      unfold mlD
      rcases hx with ⟨rfl, hx⟩ | ⟨rfl, hx⟩
      · rw [if_pos rfl, if_pos rfl]; omega
      · rw [if_neg (by omega), if_neg (by omega)]; omega
    have e3 : dp u d l (mlD d n + 1) (s / 16) ≤ dp u d l (mlD d (s % 16) + 1) (s / 16) := by
      rw [e1]
      show fo u (mlD d (mlD d (s % 16) + 1)) d (dp u d l (mlD d (s % 16) + 1)) (s / 16) ≤ _
      rw [e2]
      refine Nat.le_trans (fo_le (by omega)) ?_
      unfold ent
      rw [if_pos hf]
      exact Nat.le_refl _
    omega
  · refine ⟨by omega, ?_⟩
    unfold Bv
    rw [show (16 * g + s % 16) % 16 = s % 16 by omega, show (16 * g + s % 16) / 16 = g by omega]
    have e2 : mlD d (mlD d (s % 16)) = s % 16 := by
      unfold mlD
      split <;> omega
    have e3 : dp u d l (mlD d (s % 16) + 1) g ≤ dp u d l (mlD d (s % 16) + 1) (s / 16) + 1 := by
      show fo u (mlD d (mlD d (s % 16))) d (dp u d l (mlD d (s % 16))) g ≤ fo u (mlD d (mlD d (s % 16))) d (dp u d l (mlD d (s % 16))) (s / 16) + 1
      rw [e2]
      exact fo_cl (by omega) hg hx ho
    omega
/-- a pass over the numbers: none is too low; nothing was changed and all that was tried holds, or their sum fell -/
def St (u : Nat → Nat) (d l : Nat) (L0 : Nat → Nat) (E : Nat → Nat → Nat → Prop) (mo : Int32) (L : Nat → Nat) : Prop := (∀ j, L j ≤ L0 j) ∧ (∀ j, j < 48 → Bv u d l j ≤ L j) ∧ ((mo = 0 ∧ L = L0 ∧ ∀ s t w, E s t w → L0 s < 99 → L0 t ≤ L0 s + w) ∨ (mo = 1 ∧ sumN L 48 < sumN L0 48))
theorem sumN_mono {f g : Nat → Nat} {n : Nat} (h : ∀ i, i < n → f i ≤ g i) : sumN f n ≤ sumN g n := by
  induction n with
  | zero => exact Nat.le_refl _
  | succ n ih =>
    have h1 := ih (fun i hi => h i (by omega))
    have h2 := h n (by omega)
    rw [sumN, sumN]
    omega
theorem sumN_less {f g : Nat → Nat} {n t : Nat} (h : ∀ i, i < n → f i ≤ g i) (ht : t < n) (hl : f t < g t) : sumN f n < sumN g n := by
  induction n with
  | zero => omega
  | succ n ih =>
    rw [sumN, sumN]
    by_cases e : t = n
    · subst e
      have h1 := sumN_mono (n := t) (fun i hi => h i (by omega))
      omega
    · have h1 := ih (fun i hi => h i (by omega)) (by omega)
      have h2 := h n (by omega)
      omega
theorem St.relax {u : Nat → Nat} {d l : Nat} {L0 L : Nat → Nat} {E E' : Nat → Nat → Nat → Prop} {mo : Int32} (h : St u d l L0 E mo L) {s t w : Nat} (hs : s < 48) (ht : t < 48) (hB : Bv u d l t ≤ Bv u d l s + w) (hlt : L s + w < L t) : St u d l L0 E' 1 (fun j => if j = t then L s + w else L j) := by
  obtain ⟨h1, h2, h3⟩ := h
  refine ⟨fun j => ?_, fun j hj => ?_, Or.inr ⟨rfl, ?_⟩⟩
  · show (if j = t then L s + w else L j) ≤ L0 j
    by_cases e : j = t
    · rw [if_pos e, e]
      have := h1 t
      omega
    · rw [if_neg e]; exact h1 j
  · show Bv u d l j ≤ if j = t then L s + w else L j
    by_cases e : j = t
    · rw [if_pos e, e]
      have := h2 s hs
      omega
    · rw [if_neg e]; exact h2 j hj
  · have g : sumN (fun j => if j = t then L s + w else L j) 48 < sumN L 48 := by
      refine sumN_less (t := t) (fun i hi => ?_) ht ?_
      · show (if i = t then L s + w else L i) ≤ L i
        by_cases e : i = t
        · rw [if_pos e, e]; omega
        · rw [if_neg e]; exact Nat.le_refl _
      · show (if t = t then L s + w else L t) < L t
        rw [if_pos rfl]; exact hlt
    have g2 : sumN L 48 ≤ sumN L0 48 := sumN_mono (fun i _ => h1 i)
    omega
theorem St.keep {u : Nat → Nat} {d l : Nat} {L0 L : Nat → Nat} {E E' : Nat → Nat → Nat → Prop} {mo : Int32} (h : St u d l L0 E mo L) (hno : ∀ s t w, E' s t w → E s t w ∨ (L s < 99 → L t ≤ L s + w)) : St u d l L0 E' mo L := by
  obtain ⟨h1, h2, h3⟩ := h
  refine ⟨h1, h2, ?_⟩
  rcases h3 with ⟨g1, g2, g3⟩ | g
  · subst g2
    refine Or.inl ⟨g1, rfl, fun s t w hE => ?_⟩
    rcases hno s t w hE with z | z
    · exact g3 s t w z
    · exact z
  · exact Or.inr g
def RLe (le : Nat → Int32) (L : Nat → Nat) : Prop := ∀ j, j < 48 → le j = nI (L j)
theorem RLe.upd {le : Nat → Int32} {L : Nat → Nat} (h : RLe le L) (t v : Nat) : RLe (upd le t (nI v)) (fun j => if j = t then v else L j) := by
  intro j hj
  by_cases e : j = t
  · rw [e, upd_eq]
    show nI v = nI (if t = t then v else L t)
    rw [if_pos rfl]
  · rw [upd_ne e, h j hj]
    show nI (L j) = nI (if j = t then v else L j)
    rw [if_neg e]
