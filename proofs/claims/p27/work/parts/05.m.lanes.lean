/-! the fewest changes of lane -/
def rx (e : Bool) (i j : Nat) (c : Nat → Nat) : Nat → Nat := fun k => if k = j then (if e = true then min (c i + 1) (c j) else c j) else c k
/-- a round of the reference, the class's four changes -/
def rnd (e01 e10 e12 e21 : Bool) (c : Nat → Nat) : Nat → Nat := rx e21 2 1 (rx e12 1 2 (rx e10 1 0 (rx e01 0 1 c)))
def fou (e01 e10 e12 e21 : Bool) (c : Nat → Nat) : Nat → Nat := rx e10 1 0 (rx e21 2 1 (rx e12 1 2 (rx e01 0 1 c)))
theorem rx_j {e : Bool} {i j : Nat} {c : Nat → Nat} : rx e i j c j = if e = true then min (c i + 1) (c j) else c j := by unfold rx; rw [if_pos rfl]
theorem rx_n {e : Bool} {i j k : Nat} {c : Nat → Nat} (h : k ≠ j) : rx e i j c k = c k := by unfold rx; rw [if_neg h]
theorem rnd_0 {e01 e10 e12 e21 : Bool} {c : Nat → Nat} : rnd e01 e10 e12 e21 c 0 = if e10 = true then min ((if e01 = true then min (c 0 + 1) (c 1) else c 1) + 1) (c 0) else c 0 := by
  unfold rnd
  rw [rx_n (show 0 ≠ 1 by omega), rx_n (show 0 ≠ 2 by omega), rx_j, rx_j, rx_n (show 0 ≠ 1 by omega)]
theorem rnd_2 {e01 e10 e12 e21 : Bool} {c : Nat → Nat} : rnd e01 e10 e12 e21 c 2 = if e12 = true then min ((if e01 = true then min (c 0 + 1) (c 1) else c 1) + 1) (c 2) else c 2 := by
  unfold rnd
  rw [rx_n (show 2 ≠ 1 by omega), rx_j, rx_n (show 1 ≠ 0 by omega), rx_n (show 2 ≠ 0 by omega), rx_n (show 2 ≠ 1 by omega), rx_j]
theorem rnd_1 {e01 e10 e12 e21 : Bool} {c : Nat → Nat} : rnd e01 e10 e12 e21 c 1 = if e21 = true then min ((rnd e01 e10 e12 e21 c 2) + 1) (if e01 = true then min (c 0 + 1) (c 1) else c 1) else (if e01 = true then min (c 0 + 1) (c 1) else c 1) := by
  rw [rnd_2]
  unfold rnd
  rw [rx_j, rx_j, rx_n (show 2 ≠ 0 by omega), rx_n (show 2 ≠ 1 by omega), rx_n (show 1 ≠ 2 by omega), rx_n (show 1 ≠ 0 by omega), rx_j]
theorem fou_1 {e01 e10 e12 e21 : Bool} {c : Nat → Nat} : fou e01 e10 e12 e21 c 1 = rnd e01 e10 e12 e21 c 1 := by
  rw [rnd_1, rnd_2]
  unfold fou
  rw [rx_n (by omega), rx_j, rx_j, rx_n (show 2 ≠ 1 by omega), rx_n (show 1 ≠ 2 by omega), rx_j]
theorem fou_2 {e01 e10 e12 e21 : Bool} {c : Nat → Nat} : fou e01 e10 e12 e21 c 2 = rnd e01 e10 e12 e21 c 2 := by
  rw [rnd_2]
  unfold fou
  rw [rx_n (by omega), rx_n (by omega), rx_j, rx_n (show 2 ≠ 1 by omega), rx_j]
theorem fou_0 {e01 e10 e12 e21 : Bool} {c : Nat → Nat} : fou e01 e10 e12 e21 c 0 = if e10 = true then min (fou e01 e10 e12 e21 c 1 + 1) (c 0) else c 0 := by
  rw [fou_1, rnd_1, rnd_2]
  unfold fou
  rw [rx_j, rx_j, rx_j, rx_n (show 2 ≠ 1 by omega), rx_n (show 1 ≠ 2 by omega), rx_j, rx_n (show 0 ≠ 1 by omega), rx_n (show 0 ≠ 2 by omega), rx_n (show 0 ≠ 1 by omega)]
theorem rnd3a {e01 e10 e12 e21 : Bool} {c c1 c2 F : Nat → Nat} (a0 : c1 0 = if e10 = true then min ((if e01 = true then min (c 0 + 1) (c 1) else c 1) + 1) (c 0) else c 0) (a2 : c1 2 = if e12 = true then min ((if e01 = true then min (c 0 + 1) (c 1) else c 1) + 1) (c 2) else c 2) (a1 : c1 1 = if e21 = true then min (c1 2 + 1) (if e01 = true then min (c 0 + 1) (c 1) else c 1) else (if e01 = true then min (c 0 + 1) (c 1) else c 1))
    (b0 : c2 0 = if e10 = true then min ((if e01 = true then min (c1 0 + 1) (c1 1) else c1 1) + 1) (c1 0) else c1 0) (b2 : c2 2 = if e12 = true then min ((if e01 = true then min (c1 0 + 1) (c1 1) else c1 1) + 1) (c1 2) else c1 2) (b1 : c2 1 = if e21 = true then min (c2 2 + 1) (if e01 = true then min (c1 0 + 1) (c1 1) else c1 1) else (if e01 = true then min (c1 0 + 1) (c1 1) else c1 1))
    (f0 : F 0 = if e10 = true then min (c1 1 + 1) (c 0) else c 0) : (c2 1 = c1 1 ∧ c2 2 = c1 2 ∧ c2 0 = F 0) ∧ (e01 = true → c2 1 ≤ c2 0 + 1) ∧ (e10 = true → c2 0 ≤ c2 1 + 1) ∧ (e12 = true → c2 2 ≤ c2 1 + 1) ∧ (e21 = true → c2 1 ≤ c2 2 + 1) := by
  generalize c 0 = x0 at *
  generalize c 1 = x1 at *
  generalize c 2 = x2 at *
  generalize c1 0 = y0 at *
  generalize c1 1 = y1 at *
  generalize c1 2 = y2 at *
  generalize c2 0 = z0 at *
  generalize c2 1 = z1 at *
  generalize c2 2 = z2 at *
  generalize F 0 = g0 at *
  cases e01 <;> cases e10 <;> cases e12 <;> cases e21 <;> simp only [↓reduceIte, Bool.false_eq_true] at a0 a1 a2 b0 b1 b2 f0 <;> refine ⟨⟨by omega, by omega, by omega⟩, fun h => ?_, fun h => ?_, fun h => ?_, fun h => ?_⟩ <;> first | (exact absurd h (by decide)) | omega
theorem rnd_fix {e01 e10 e12 e21 : Bool} {c : Nat → Nat} (h1 : e01 = true → c 1 ≤ c 0 + 1) (h2 : e10 = true → c 0 ≤ c 1 + 1) (h3 : e12 = true → c 2 ≤ c 1 + 1) (h4 : e21 = true → c 1 ≤ c 2 + 1) : rnd e01 e10 e12 e21 c 0 = c 0 ∧ rnd e01 e10 e12 e21 c 1 = c 1 ∧ rnd e01 e10 e12 e21 c 2 = c 2 := by
  have q1 : (if e01 = true then min (c 0 + 1) (c 1) else c 1) = c 1 := by
    split
    · rename_i h; have := h1 h; omega
    · rfl
  have q2 : rnd e01 e10 e12 e21 c 2 = c 2 := by
    rw [rnd_2, q1]
    split
    · rename_i h; have := h3 h; omega
    · rfl
  refine ⟨?_, ?_, q2⟩
  · rw [rnd_0, q1]
    split
    · rename_i h; have := h2 h; omega
    · rfl
  · rw [rnd_1, q1, q2]
    split
    · rename_i h; have := h4 h; omega
    · rfl
theorem rnd3 {e01 e10 e12 e21 : Bool} {c : Nat → Nat} {k : Nat} (hk : k < 3) : fou e01 e10 e12 e21 c k = rnd e01 e10 e12 e21 (rnd e01 e10 e12 e21 (rnd e01 e10 e12 e21 c)) k := by
  obtain ⟨⟨g1, g2, g3⟩, h1, h2, h3, h4⟩ := rnd3a (F := fou e01 e10 e12 e21 c) (@rnd_0 e01 e10 e12 e21 c) rnd_2 rnd_1 (@rnd_0 e01 e10 e12 e21 (rnd e01 e10 e12 e21 c)) rnd_2 rnd_1 (by rw [fou_0, fou_1])
  obtain ⟨k1, k2, k3⟩ := rnd_fix h1 h2 h3 h4
  have h : k = 0 ∨ k = 1 ∨ k = 2 := by omega
  rcases h with rfl | rfl | rfl
  · rw [k1, g3]
  · rw [k2, g1, fou_1]
  · rw [k3, g2, fou_2]
