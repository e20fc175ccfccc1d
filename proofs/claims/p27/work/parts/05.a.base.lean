/-! the pure side: numbers, loops -/
/-- numerals -/
theorem li0 : (0 : Int32) = nI 0 := rfl
theorem li1 : (1 : Int32) = nI 1 := rfl
theorem li2 : (2 : Int32) = nI 2 := rfl
theorem li3 : (3 : Int32) = nI 3 := rfl
theorem li4 : (4 : Int32) = nI 4 := rfl
theorem li5 : (5 : Int32) = nI 5 := rfl
theorem li6 : (6 : Int32) = nI 6 := rfl
theorem li7 : (7 : Int32) = nI 7 := rfl
theorem li10 : (10 : Int32) = nI 10 := rfl
theorem li12 : (12 : Int32) = nI 12 := rfl
theorem li14 : (14 : Int32) = nI 14 := rfl
theorem li15 : (15 : Int32) = nI 15 := rfl
theorem li16 : (16 : Int32) = nI 16 := rfl
theorem li20 : (20 : Int32) = nI 20 := rfl
theorem li23 : (23 : Int32) = nI 23 := rfl
theorem li30 : (30 : Int32) = nI 30 := rfl
theorem li31 : (31 : Int32) = nI 31 := rfl
theorem li33 : (33 : Int32) = nI 33 := rfl
theorem li39 : (39 : Int32) = nI 39 := rfl
theorem li40 : (40 : Int32) = nI 40 := rfl
theorem li59 : (59 : Int32) = nI 59 := rfl
theorem li60 : (60 : Int32) = nI 60 := rfl
theorem li69 : (69 : Int32) = nI 69 := rfl
theorem li70 : (70 : Int32) = nI 70 := rfl
theorem li71 : (71 : Int32) = nI 71 := rfl
theorem li98 : (98 : Int32) = nI 98 := rfl
theorem li99 : (99 : Int32) = nI 99 := rfl
theorem li100 : (100 : Int32) = nI 100 := rfl
theorem li126 : (126 : Int32) = nI 126 := rfl
theorem li144 : (144 : Int32) = nI 144 := rfl
theorem li204 : (204 : Int32) = nI 204 := rfl
theorem li267 : (267 : Int32) = nI 267 := rfl
theorem li268 : (268 : Int32) = nI 268 := rfl
theorem li300 : (300 : Int32) = nI 300 := rfl
theorem li1000 : (1000 : Int32) = nI 1000 := rfl
theorem li1072 : (1072 : Int32) = nI 1072 := rfl
theorem li1340 : (1340 : Int32) = nI 1340 := rfl
theorem nI_neg {a : Nat} (h : a < 2 ^ 31) : ¬ nI a < 0 := nI_pos h
theorem nI_ne_m {a k : Nat} (ha : a < 2 ^ 31) (h0 : 0 < k) (hk : k < 2 ^ 31) : ¬ nI a = -nI k := by
  intro e
  have h1 := congrArg Int32.toInt e
  rw [nI_toInt ha, sb_negT hk] at h1
  omega
theorem m6 : (-6 : Int32) = -nI 6 := rfl
theorem nI_ne6 {a : Nat} (h : a < 2 ^ 31) : (nI a = -6) = False := eq_false (by rw [m6]; exact nI_ne_m h (by omega) (by omega))
/-- a place is in its row -/
theorem g_in {c n : Nat} (h : c < n) (hn : n < 2 ^ 31) : (nI c < 0 ∨ n ≤ (nI c).toNatClampNeg) = False := eq_false (nI_in h hn)
theorem g_in2 {c n : Nat} (h : c < n) (hn : n < 2 ^ 31) : (nI c < 0 ∨ n ≤ c) = False := eq_false (fun z => z.elim (nI_pos (by omega)) (by omega))
theorem g_0 {n : Nat} (h : 0 < n) : ((0 : Int32) < 0 ∨ n ≤ 0) = False := eq_false (fun z => z.elim (by decide) (by omega))
theorem cl0 : (0 : Int32).toNatClampNeg = 0 := rfl
/-- an int between 0 and N, or not -/
theorem rng (x : Int32) {N : Nat} (hN : N < 2 ^ 30) : (∃ a : Nat, a ≤ N ∧ x = nI a) ∨ (x < 0) ∨ (¬ x < 0 ∧ nI N < x) := by
  by_cases h0 : x < 0
  · exact Or.inr (Or.inl h0)
  · by_cases h1 : nI N < x
    · exact Or.inr (Or.inr ⟨h0, h1⟩)
    · obtain ⟨j, hj, rfl⟩ := nI_of h0
      refine Or.inl ⟨j, ?_, rfl⟩
      rw [nI_ltI (by omega) hj] at h1
      omega
/-- a loop by a measure -/
theorem lpN_rule {α β : Type} (body : (α → Option β) → α → Option β) (P : α → Option β → Prop) (I : α → Prop) (μ : α → Nat)
    (hs : ∀ (k : α → Option β) (a : α), I a → (∀ a', I a' → μ a' < μ a → P a' (k a')) → P a (body k a)) : ∀ (n : Nat) (a : α), I a → μ a < n → P a (lpN body n a) := by
  intro n
  induction n with
  | zero => intro a _ h; exact absurd h (Nat.not_lt_zero _)
  | succ n ih => intro a ha hn; exact hs (lpN body n) a ha (fun a' ha' hm => ih a' ha' (by omega))
/-- two loops side by side -/
theorem lpN_rel {α β γ δ : Type} (b1 : (α → Option γ) → α → Option γ) (b2 : (β → Option δ) → β → Option δ) (I : α → β → Prop) (μ : α → β → Nat) (Q : Option γ → Option δ → Prop)
    (hs : ∀ (k1 : α → Option γ) (k2 : β → Option δ) (a : α) (b : β), I a b → (∀ a' b', I a' b' → μ a' b' < μ a b → Q (k1 a') (k2 b')) → Q (b1 k1 a) (b2 k2 b)) : ∀ (n : Nat) (a : α) (b : β), I a b → μ a b < n → Q (lpN b1 n a) (lpN b2 n b) := by
  intro n
  induction n with
  | zero => intro a b _ h; exact absurd h (Nat.not_lt_zero _)
  | succ n ih => intro a b ha hn; exact hs (lpN b1 n) (lpN b2 n) a b ha (fun a' b' ha' hm => ih a' b' ha' (by omega))
theorem lpN_succ {α β : Type} (body : (α → Option β) → α → Option β) (n : Nat) (a : α) : lpN body (n + 1) a = body (lpN body n) a := rfl
/-- one more turn of a loop with the walk's fuel -/
theorem lp3000 {α β : Type} (body : (α → Option β) → α → Option β) (a : α) : lpN body 3000 a = body (lpN body 2999) a := rfl
theorem upd_eq {f : Nat → Int32} {k : Nat} {v : Int32} : upd f k v k = v := pk_us
theorem upd_ne {f : Nat → Int32} {k j : Nat} {v : Int32} (h : j ≠ k) : upd f k v j = f j := pk_un h
/-- what is strong stays at 0 or above -/
theorem mx0 {a b : Nat} (ha : a < 2 ^ 30) (hb : b < 2 ^ 30) : (if (0 : Int32) < nI a - nI b then nI a - nI b else 0) = nI (a - b) := by
  by_cases h : b ≤ a
  · rw [pk_sub h]
    by_cases h1 : (0 : Int32) < nI (a - b)
    · rw [if_pos h1]
    · rw [if_neg h1]
      rw [li0, nI_ltI (by omega) (by omega)] at h1
      rw [show a - b = 0 by omega]
      rfl
  · have h1 : nI a - nI b < 0 := pk_sneg hb (by omega)
    rw [if_neg (fun h2 => Int32.lt_irrefl (Int32.lt_trans h1 h2)), show a - b = 0 by omega]
    rfl
theorem mx1 {a b : Nat} (ha : a < 2 ^ 30) (hb : b < 2 ^ 30) : (if nI b < nI a then nI a - nI b else 0) = nI (a - b) := by
  by_cases h : nI b < nI a
  · rw [if_pos h, pk_sub (by rw [nI_ltI (by omega) (by omega)] at h; omega)]
  · rw [if_neg h]
    rw [nI_ltI (by omega) (by omega)] at h
    rw [show a - b = 0 by omega]
    rfl
/-! the signs of a road, as numbers: u (place) is the code of a sign, 0 without one; u (place + 1) its strength -/
def SgU (u : Nat → Nat) (n rw bs st off : Nat) (s : TX4s) : Prop := s.1 = n ∧ s.2.1 = nI rw ∧ ∀ i, i < n → s.2.2.2 i = nI (u (bs + st * i + 1)) ∧ (u (bs + st * i) ≠ 0 → s.2.2.1 i = nI (u (bs + st * i) - off))
def UG (u : Nat → Nat) (n bs st mx : Nat) : Prop := ∀ i, i < n → u (bs + st * i + 1) ≤ 100 ∧ (u (bs + st * i) = 0 ↔ u (bs + st * i + 1) = 0) ∧ u (bs + st * i) ≤ mx
def UOk (u : Nat → Nat) : Prop := UG u 48 12 4 3 ∧ UG u 48 14 4 4 ∧ UG u 32 204 2 3 ∧ (1 ≤ u 0 ∧ u 0 ≤ 100) ∧ (1 ≤ u 1 ∧ u 1 ≤ 40) ∧ (∀ i, i < 3 → u (2 + i) ≤ 20) ∧ u 5 ≤ 99
def RdU (u : Nat → Nat) (r : TX3s) : Prop := SgU u 48 3 12 4 1 r.1 ∧ SgU u 48 3 14 4 1 r.2.1 ∧ SgU u 32 2 204 2 0 r.2.2.1 ∧ (∀ i, i < 3 → r.2.2.2.1 i = nI (u (2 + i))) ∧ (∀ i, i < 2 → r.2.2.2.2.1 i = nI (u i)) ∧ r.2.2.2.2.2.1 = nI (u 5)
def ZU (u : Nat → Nat) (z : Nat → Int32) : Prop := ∀ k, k < 268 → (k < 6 ∨ 12 ≤ k) → z k = nI (u k)
/-- the shape of a road: its rows' lengths -/
def Shp (r : TX3s) : Prop := (r.1.1 = 48 ∧ r.1.2.1 = nI 3) ∧ (r.2.1.1 = 48 ∧ r.2.1.2.1 = nI 3) ∧ (r.2.2.1.1 = 32 ∧ r.2.2.1.2.1 = nI 2)
/-- the class's road and the reference's numbers say the same -/
def RZ (r : TX3s) (z : Nat → Int32) : Prop := ∃ u : Nat → Nat, RdU u r ∧ ZU u z ∧ UOk u ∧ r.2.2.2.2.2.2.1 = z 6 ∧ r.2.2.2.2.2.2.2.1 = z 7 ∧ r.2.2.2.2.2.2.2.2.1 = z 8 ∧ r.2.2.2.2.2.2.2.2.2 = z 9
def set2 (u : Nat → Nat) (p c v : Nat) : Nat → Nat := fun k => if k = p then c else if k = p + 1 then v else u k
theorem set2_0 {u : Nat → Nat} {p c v : Nat} : set2 u p c v p = c := by simp [set2]
theorem set2_1 {u : Nat → Nat} {p c v : Nat} : set2 u p c v (p + 1) = v := by simp [set2]
theorem set2_n {u : Nat → Nat} {p c v k : Nat} (h : k ≠ p) (h1 : k ≠ p + 1) : set2 u p c v k = u k := by simp [set2, h, h1]
/-- one sign of its own kind changes -/
theorem SgU.set {u : Nat → Nat} {n rw bs st off i c v : Nat} {s s' : TX4s} (h : SgU u n rw bs st off s) (hi : i < n) (ha : ∀ j, j < n → j ≠ i → bs + st * j ≠ bs + st * i ∧ bs + st * j ≠ bs + st * i + 1 ∧ bs + st * j + 1 ≠ bs + st * i ∧ bs + st * j + 1 ≠ bs + st * i + 1)
    (h1 : s'.1 = s.1) (h2 : s'.2.1 = s.2.1) (hk : ∀ j, j < n → j ≠ i → s'.2.2.1 j = s.2.2.1 j) (hs : ∀ j, j < n → j ≠ i → s'.2.2.2 j = s.2.2.2 j) (hki : c ≠ 0 → s'.2.2.1 i = nI (c - off)) (hsi : s'.2.2.2 i = nI v) : SgU (set2 u (bs + st * i) c v) n rw bs st off s' := by
  refine ⟨h1.trans h.1, h2.trans h.2.1, fun j hj => ?_⟩
  by_cases hji : j = i
  · subst hji
    rw [set2_0, set2_1]
    exact ⟨hsi, hki⟩
  · obtain ⟨a1, a2, a3, a4⟩ := ha j hj hji
    rw [set2_n a1 a2, set2_n a3 a4, hk j hj hji, hs j hj hji]
    exact h.2.2 j hj
/-- a sign of another kind changes -/
theorem SgU.other {u : Nat → Nat} {n rw bs st off p c v : Nat} {s : TX4s} (h : SgU u n rw bs st off s) (ha : ∀ j, j < n → bs + st * j ≠ p ∧ bs + st * j ≠ p + 1 ∧ bs + st * j + 1 ≠ p ∧ bs + st * j + 1 ≠ p + 1) : SgU (set2 u p c v) n rw bs st off s := by
  refine ⟨h.1, h.2.1, fun j hj => ?_⟩
  obtain ⟨a1, a2, a3, a4⟩ := ha j hj
  rw [set2_n a1 a2, set2_n a3 a4]
  exact h.2.2 j hj
theorem UG.set {u : Nat → Nat} {n bs st mx i c v : Nat} (h : UG u n bs st mx) (ha : ∀ j, j < n → j ≠ i → bs + st * j ≠ bs + st * i ∧ bs + st * j ≠ bs + st * i + 1 ∧ bs + st * j + 1 ≠ bs + st * i ∧ bs + st * j + 1 ≠ bs + st * i + 1) (hv : v ≤ 100) (hc : c ≤ mx) (hcv : c = 0 ↔ v = 0) : UG (set2 u (bs + st * i) c v) n bs st mx := by
  intro j hj
  by_cases hji : j = i
  · subst hji
    rw [set2_0, set2_1]
    exact ⟨hv, hcv, hc⟩
  · obtain ⟨a1, a2, a3, a4⟩ := ha j hj hji
    rw [set2_n a1 a2, set2_n a3 a4]
    exact h j hj
theorem UG.other {u : Nat → Nat} {n bs st mx p c v : Nat} (h : UG u n bs st mx) (ha : ∀ j, j < n → bs + st * j ≠ p ∧ bs + st * j ≠ p + 1 ∧ bs + st * j + 1 ≠ p ∧ bs + st * j + 1 ≠ p + 1) : UG (set2 u p c v) n bs st mx := by
  intro j hj
  obtain ⟨a1, a2, a3, a4⟩ := ha j hj
  rw [set2_n a1 a2, set2_n a3 a4]
  exact h j hj
theorem ZU.set {u : Nat → Nat} {z z' : Nat → Int32} {p c v : Nat} (h : ZU u z) (h0 : z' p = nI c) (h1 : z' (p + 1) = nI v) (hn : ∀ k, k ≠ p → k ≠ p + 1 → z' k = z k) : ZU (set2 u p c v) z' := by
  intro k hk hk2
  by_cases e0 : k = p
  · subst e0; rw [set2_0]; exact h0
  · by_cases e1 : k = p + 1
    · subst e1; rw [set2_1]; exact h1
    · rw [set2_n e0 e1, hn k e0 e1]; exact h k hk hk2
theorem UOk.setA {u : Nat → Nat} {i c v : Nat} (h : UOk u) (hi : i < 48) (hv : v ≤ 100) (hc : c ≤ 3) (hcv : c = 0 ↔ v = 0) : UOk (set2 u (12 + 4 * i) c v) := by
  obtain ⟨h1, h2, h3, h4, h5, h6, h7⟩ := h
  refine ⟨h1.set (fun j hj hji => by omega) hv hc hcv, h2.other (fun j hj => by omega), h3.other (fun j hj => by omega), ?_, ?_, fun j hj => ?_, ?_⟩
  · rw [set2_n (by omega) (by omega)]; exact h4
  · rw [set2_n (by omega) (by omega)]; exact h5
  · rw [set2_n (by omega) (by omega)]; exact h6 j hj
  · rw [set2_n (by omega) (by omega)]; exact h7
theorem UOk.setW {u : Nat → Nat} {i c v : Nat} (h : UOk u) (hi : i < 48) (hv : v ≤ 100) (hc : c ≤ 4) (hcv : c = 0 ↔ v = 0) : UOk (set2 u (14 + 4 * i) c v) := by
  obtain ⟨h1, h2, h3, h4, h5, h6, h7⟩ := h
  refine ⟨h1.other (fun j hj => by omega), h2.set (fun j hj hji => by omega) hv hc hcv, h3.other (fun j hj => by omega), ?_, ?_, fun j hj => ?_, ?_⟩
  · rw [set2_n (by omega) (by omega)]; exact h4
  · rw [set2_n (by omega) (by omega)]; exact h5
  · rw [set2_n (by omega) (by omega)]; exact h6 j hj
  · rw [set2_n (by omega) (by omega)]; exact h7
theorem UOk.setD {u : Nat → Nat} {i c v : Nat} (h : UOk u) (hi : i < 32) (hv : v ≤ 100) (hc : c ≤ 3) (hcv : c = 0 ↔ v = 0) : UOk (set2 u (204 + 2 * i) c v) := by
  obtain ⟨h1, h2, h3, h4, h5, h6, h7⟩ := h
  refine ⟨h1.other (fun j hj => by omega), h2.other (fun j hj => by omega), h3.set (fun j hj hji => by omega) hv hc hcv, ?_, ?_, fun j hj => ?_, ?_⟩
  · rw [set2_n (by omega) (by omega)]; exact h4
  · rw [set2_n (by omega) (by omega)]; exact h5
  · rw [set2_n (by omega) (by omega)]; exact h6 j hj
  · rw [set2_n (by omega) (by omega)]; exact h7
/-- what of a road stays with the signs aside -/
def RdRest (r r' : TX3s) : Prop := r'.2.2.2.1 = r.2.2.2.1 ∧ r'.2.2.2.2.1 = r.2.2.2.2.1 ∧ r'.2.2.2.2.2.1 = r.2.2.2.2.2.1
theorem RdU.setA {u : Nat → Nat} {r : TX3s} {i c v : Nat} {s' : TX4s} (h : RdU u r) (hi : i < 48) (h1 : s'.1 = r.1.1) (h2 : s'.2.1 = r.1.2.1) (hk : ∀ j, j < 48 → j ≠ i → s'.2.2.1 j = r.1.2.2.1 j) (hs : ∀ j, j < 48 → j ≠ i → s'.2.2.2 j = r.1.2.2.2 j) (hki : c ≠ 0 → s'.2.2.1 i = nI (c - 1)) (hsi : s'.2.2.2 i = nI v) : RdU (set2 u (12 + 4 * i) c v) (s', r.2) := by
  obtain ⟨g1, g2, g3, g4, g5, g6⟩ := h
  refine ⟨g1.set hi (fun j hj hji => by omega) h1 h2 hk hs hki hsi, g2.other (fun j hj => by omega), g3.other (fun j hj => by omega), fun j hj => ?_, fun j hj => ?_, ?_⟩
  · rw [set2_n (by omega) (by omega)]; exact g4 j hj
  · rw [set2_n (by omega) (by omega)]; exact g5 j hj
  · rw [set2_n (by omega) (by omega)]; exact g6
theorem RdU.setW {u : Nat → Nat} {r : TX3s} {i c v : Nat} {s' : TX4s} (h : RdU u r) (hi : i < 48) (h1 : s'.1 = r.2.1.1) (h2 : s'.2.1 = r.2.1.2.1) (hk : ∀ j, j < 48 → j ≠ i → s'.2.2.1 j = r.2.1.2.2.1 j) (hs : ∀ j, j < 48 → j ≠ i → s'.2.2.2 j = r.2.1.2.2.2 j) (hki : c ≠ 0 → s'.2.2.1 i = nI (c - 1)) (hsi : s'.2.2.2 i = nI v) : RdU (set2 u (14 + 4 * i) c v) (r.1, s', r.2.2) := by
  obtain ⟨g1, g2, g3, g4, g5, g6⟩ := h
  refine ⟨g1.other (fun j hj => by omega), g2.set hi (fun j hj hji => by omega) h1 h2 hk hs hki hsi, g3.other (fun j hj => by omega), fun j hj => ?_, fun j hj => ?_, ?_⟩
  · rw [set2_n (by omega) (by omega)]; exact g4 j hj
  · rw [set2_n (by omega) (by omega)]; exact g5 j hj
  · rw [set2_n (by omega) (by omega)]; exact g6
theorem RdU.setD {u : Nat → Nat} {r : TX3s} {i c v : Nat} {s' : TX4s} (h : RdU u r) (hi : i < 32) (h1 : s'.1 = r.2.2.1.1) (h2 : s'.2.1 = r.2.2.1.2.1) (hk : ∀ j, j < 32 → j ≠ i → s'.2.2.1 j = r.2.2.1.2.2.1 j) (hs : ∀ j, j < 32 → j ≠ i → s'.2.2.2 j = r.2.2.1.2.2.2 j) (hki : c ≠ 0 → s'.2.2.1 i = nI (c - 0)) (hsi : s'.2.2.2 i = nI v) : RdU (set2 u (204 + 2 * i) c v) (r.1, r.2.1, s', r.2.2.2) := by
  obtain ⟨g1, g2, g3, g4, g5, g6⟩ := h
  refine ⟨g1.other (fun j hj => by omega), g2.other (fun j hj => by omega), g3.set hi (fun j hj hji => by omega) h1 h2 hk hs hki hsi, fun j hj => ?_, fun j hj => ?_, ?_⟩
  · rw [set2_n (by omega) (by omega)]; exact g4 j hj
  · rw [set2_n (by omega) (by omega)]; exact g5 j hj
  · rw [set2_n (by omega) (by omega)]; exact g6
