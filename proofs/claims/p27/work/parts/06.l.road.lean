/-! all is told anew: cells, lines, drives, totals -/
section RO
variable {u : Nat → Nat} {x : TX5s} {a p w q d e t : Nat → Int32} {n : Nat}
theorem bitS {β : Type} (X : Int32 → β) {c : Nat} (hc : c < 2 ^ 30) : (if wv c < 0 then X 0 else X 1) = X (nI (if c = 0 then 0 else 1)) := by
  simp only [wv_neg hc]
  by_cases h : c = 0
  · rw [if_pos h, if_pos h]; rfl
  · rw [if_neg h, if_neg h]; rfl
theorem wySel {β : Type} (X : Int32 → β) {c : Nat} (hc : c < 2 ^ 30) : (if 0 ≤ wv c then X (wv c) else X (-6)) = X (wyC c) := by
  simp only [wv_ge hc]
  by_cases h : c = 0
  · rw [if_neg (fun z => z h), h]; rfl
  · rw [if_pos h]
    unfold wv wyC
    rw [if_neg h, if_neg h]
theorem rdS {β : Type} (X : Int32 → β) {i : Nat} : (if nI (rdN u i) = 0 then X 0 else X 1) = X (nI (rdN u i)) := by
  rcases @rdN_01 u i with h | h <;> rw [h] <;> rfl
theorem frS {β : Type} (X : Int32 → β) {b : Bool} : (if (if b = true then (1 : Int32) else 0) = 0 then X 0 else X 1) = X (if b = true then 1 else 0) := by
  cases b <;> rfl
abbrev KR : Type := (Int32 × Int32 × Int32 × Int32 × Int32) → Option (Int32 × TX5s)
/-- a cell -/
theorem road18 (hr : RdU u x.1) (h : AR u a p w q d e t) (hu : UOk u) (hn : n < 48) (k : KR) (v1 v2 v3 v4 : Int32) : f_L_road_l18 x a p w q d e t k (v1, v2, v3, v4, nI n) = k (v1 + nI (nA u n), v2 + nI (nW u n), v3 + nI (rdN u n), v4 + nI (u (13 + 4 * n) + u (15 + 4 * n)), nI (n + 1)) := by
  obtain ⟨e1, e2, e3, e4⟩ := h.1 n hn
  have gA := hu.A hn
  have gW := hu.W hn
  have hl : n / 16 < 3 := by omega
  have hm : n % 16 < 16 := by omega
  have e16 : 16 * (n / 16) + n % 16 = n := by omega
  have hrd := read_u h hu hn
  have c0 := cell_0 hr hu hl hm
  have c1 := cell_1 hr hl hm
  have c2 := cell_2 hr hu hl hm
  have c3 := cell_3 hr hl hm
  have c4 := cell_4 hr hu hl hm
  have c5 := cell_5 hr hu hl hm
  have c6 := cell_6 hr hu hl hm
  have f0 : f_L_free a (nI (n / 16)) (nI (n % 16)) 0 = _ := free_u h hu hl hm (k := 0) (by omega)
  have f1 : f_L_free a (nI (n / 16)) (nI (n % 16)) 1 = _ := free_u h hu hl hm (k := 1) (by omega)
  rw [e16] at c0 c1 c2 c3 c4
  have dv : nI n / 16 = nI (n / 16) := by rw [li16, pk_div (by omega) (by omega) (by omega)]
  have md : nI n - nI (n / 16) * 16 = nI (n % 16) := by
    have := mod16 hn
    rw [← li16, dv] at this
    exact this
  have hc : (nI n).toNatClampNeg = n := nI_clamp (by omega)
  have hg := g_in2 hn (show 48 < 2 ^ 31 by omega)
  have s1 : f_L_road_l18 x a p w q d e t k (v1, v2, v3, v4, nI n) = f_L_road_j53 x a p w q t k (v1, v2, v3, v4, nI n) (nI (nA u n)) := by
    unfold f_L_road_l18
    simp only [li48, leN (show 48 < 2 ^ 31 by omega) (show n < 2 ^ 31 by omega), show ¬ 48 ≤ n by omega, nI_pos (show n < 2 ^ 31 by omega), ↓reduceIte, hc, hg, e1]
    exact bitS (fun z => f_L_road_j53 x a p w q t k (v1, v2, v3, v4, nI n) z) (by omega)
  have s2 : ∀ z, f_L_road_j53 x a p w q t k (v1, v2, v3, v4, nI n) z = f_L_road_j70 x a p w q t k (v1, v2, v3, v4, nI n) z (nI (nW u n)) := by
    intro z
    unfold f_L_road_j53
    simp only [hc, hg, ↓reduceIte, e3]
    exact bitS (fun y => f_L_road_j70 x a p w q t k (v1, v2, v3, v4, nI n) z y) (by omega)
  have s3 : ∀ z z2, f_L_road_j70 x a p w q t k (v1, v2, v3, v4, nI n) z z2 = f_L_road_j93 x a p w q t k (v1, v2, v3, v4, nI n) z z2 (nI (rdN u n)) := by
    intro z z2
    unfold f_L_road_j70
    simp only [hrd, Option.bind_some]
    exact rdS (fun y => f_L_road_j93 x a p w q t k (v1, v2, v3, v4, nI n) z z2 y)
  have s4 : ∀ z z2 z3, f_L_road_j93 x a p w q t k (v1, v2, v3, v4, nI n) z z2 z3 = f_L_road_j136 x a p w q t k (v1, v2, v3, v4, nI n) z z2 z3 (wyC (u (12 + 4 * n))) (wyC (u (12 + 4 * n))) := by
    intro z z2 z3
    unfold f_L_road_j93
    simp only [hc, hg, ↓reduceIte, dv, md, c0, Option.bind_some, e1]
    exact wySel (fun y => f_L_road_j136 x a p w q t k (v1, v2, v3, v4, nI n) z z2 z3 (wyC (u (12 + 4 * n))) y) (by omega)
  have s5 : ∀ z z2 z3 y, f_L_road_j136 x a p w q t k (v1, v2, v3, v4, nI n) z z2 z3 y y = f_L_road_j180 x a p w q t k (v1, v2, v3, v4, nI n) z z2 z3 (wyC (u (14 + 4 * n))) (wyC (u (14 + 4 * n))) := by
    intro z z2 z3 y
    unfold f_L_road_j136
    simp only [hc, hg, ↓reduceIte, dv, md, c1, c2, Option.bind_some, e2, e3]
    exact wySel (fun y => f_L_road_j180 x a p w q t k (v1, v2, v3, v4, nI n) z z2 z3 (wyC (u (14 + 4 * n))) y) (by omega)
  have s6 : ∀ z z2 z3 y, f_L_road_j180 x a p w q t k (v1, v2, v3, v4, nI n) z z2 z3 y y = f_L_road_j227 x a p q k (v1, v2, v3, v4, nI n) z z2 z3 (nI (rdN u n)) (nI (rdN u n)) := by
    intro z z2 z3 y
    unfold f_L_road_j180
    simp only [hc, hg, ↓reduceIte, dv, md, c3, c4, Option.bind_some, e4, hrd]
    exact rdS (fun y => f_L_road_j227 x a p q k (v1, v2, v3, v4, nI n) z z2 z3 (nI (rdN u n)) y)
  have s7 : ∀ z z2 z3 y, f_L_road_j227 x a p q k (v1, v2, v3, v4, nI n) z z2 z3 y y = f_L_road_j256 x a p q k (v1, v2, v3, v4, nI n) z z2 z3 (if frB u (n / 16) (n % 16) 0 = true then 1 else 0) (if frB u (n / 16) (n % 16) 0 = true then 1 else 0) := by
    intro z z2 z3 y
    unfold f_L_road_j227
    simp only [dv, md, c5, f0, Option.bind_some, ↓reduceIte]
    exact frS (fun y => f_L_road_j256 x a p q k (v1, v2, v3, v4, nI n) z z2 z3 (if frB u (n / 16) (n % 16) 0 = true then 1 else 0) y)
  have s8 : ∀ z z2 z3 y, f_L_road_j256 x a p q k (v1, v2, v3, v4, nI n) z z2 z3 y y = f_L_road_j286 x p q k (v1, v2, v3, v4, nI n) z z2 z3 (if frB u (n / 16) (n % 16) 1 = true then 1 else 0) (if frB u (n / 16) (n % 16) 1 = true then 1 else 0) := by
    intro z z2 z3 y
    unfold f_L_road_j256
    simp only [dv, md, c6, f1, Option.bind_some, ↓reduceIte]
    exact frS (fun y => f_L_road_j286 x p q k (v1, v2, v3, v4, nI n) z z2 z3 (if frB u (n / 16) (n % 16) 1 = true then 1 else 0) y)
  have s9 : ∀ z z2 z3 y, f_L_road_j286 x p q k (v1, v2, v3, v4, nI n) z z2 z3 y y = k (v1 + z, v2 + z2, v3 + z3, v4 + nI (u (13 + 4 * n) + u (15 + 4 * n)), nI (n + 1)) := by
    intro z z2 z3 y
    unfold f_L_road_j286
    simp only [hc, ↓reduceIte, e2, e4, nI_add, nI_1]
  rw [s1, s2, s3, s4, s5, s6, s7, s8, s9]
/-- a line at a mile -/
theorem road300 (hr : RdU u x.1) (h : AR u a p w q d e t) (hu : UOk u) (hn : n < 32) (v18 : Int32 × Int32 × Int32 × Int32 × Int32) (k : (Int32 × Int32 × Int32) → Option (Int32 × TX5s)) (v1 v2 : Int32) : f_L_road_l300 x a d e t v18 k (v1, v2, nI n) = k (v1 + nI (nD u n), v2 + nI (u (205 + 2 * n)), nI (n + 1)) := by
  obtain ⟨e1, e2⟩ := h.2.1 n hn
  have gD := hu.D hn
  have hl : n / 16 < 2 := by omega
  have hm : n % 16 < 16 := by omega
  have e16 : 16 * (n / 16) + n % 16 = n := by omega
  have c0 := line_0 hr hu hl hm
  have c1 := line_1 hr hl hm
  rw [e16] at c0 c1
  have dv : nI n / 16 = nI (n / 16) := by rw [li16, pk_div (by omega) (by omega) (by omega)]
  have md : nI n - nI (n / 16) * 16 = nI (n % 16) := by
    have := mod16 (show n < 48 by omega)
    rw [← li16, dv] at this
    exact this
  have hc : (nI n).toNatClampNeg = n := nI_clamp (by omega)
  have hg := g_in2 hn (show 32 < 2 ^ 31 by omega)
  have s1 : f_L_road_l300 x a d e t v18 k (v1, v2, nI n) = f_L_road_j322 x d e k (v1, v2, nI n) (nI (nD u n)) := by
    unfold f_L_road_l300
    simp only [li32, leN (show 32 < 2 ^ 31 by omega) (show n < 2 ^ 31 by omega), show ¬ 32 ≤ n by omega, nI_pos (show n < 2 ^ 31 by omega), ↓reduceIte, hc, hg, e1, le0 (show u (204 + 2 * n) < 2 ^ 31 by omega)]
    unfold nD
    by_cases h0 : u (204 + 2 * n) = 0
    · rw [if_pos h0, if_pos h0]; rfl
    · rw [if_neg h0, if_neg h0]; rfl
  rw [s1]
  unfold f_L_road_j322
  simp only [hc, hg, ↓reduceIte, dv, md, c0, c1, Option.bind_some, e1, e2, nI_1]
/-- a drive -/
theorem road392 (hr : RdU u x.1) (h : AR u a p w q d e t) (hu : UOk u) (hn : n < 6) (v18 : Int32 × Int32 × Int32 × Int32 × Int32) (v300 : Int32 × Int32 × Int32) : ∃ dr, ∀ k : (Int32 × TX5s) → Option (Int32 × TX5s), f_L_road_l392 a d t v18 v300 k (nI n, x) = k (nI (n + 1), (x.1, x.2.1, x.2.2.1, x.2.2.2.1, x.2.2.2.2.1, dr)) := by
  have hd : n / 3 < 2 := by omega
  have hl : n % 3 < 3 := by omega
  obtain ⟨dr, g⟩ := fewestC hr hu hd hl
  have g2 := driveL h hu hd hl
  refine ⟨dr, fun k => ?_⟩
  unfold f_L_road_l392
  simp only [li6, leN (show 6 < 2 ^ 31 by omega) (show n < 2 ^ 31 by omega), show ¬ 6 ≤ n by omega, ↓reduceIte, li3, rem_q (show n < 2 ^ 31 by omega) (show 0 < 3 by omega) (show 3 < 2 ^ 31 by omega), pk_div (show n < 2 ^ 31 by omega) (show 0 < 3 by omega) (show 3 < 2 ^ 31 by omega), g, g2, Option.bind_some, nI_1]
/-- the counters -/
def Cnt (r : TX3s) (t : Nat → Int32) : Prop := r.2.2.2.2.2.2.1 = t 6 ∧ r.2.2.2.2.2.2.2.1 = t 7 ∧ r.2.2.2.2.2.2.2.2.1 = t 8 ∧ r.2.2.2.2.2.2.2.2.2 = t 9
theorem road_u (hr : RdU u x.1) (h : AR u a p w q d e t) (hu : UOk u) (hc : Cnt x.1 t) : ∃ dr, f_L_road x a p w q d e t = some (1, (x.1, x.2.1, x.2.2.1, x.2.2.2.1, x.2.2.2.2.1, dr)) := by
  unfold f_L_road
  obtain ⟨v, m, hv, e1⟩ := lp_for1 (f_L_road_l18 x a p w q d e t) (fun j v => v = (nI (sumN (nA u) j), nI (sumN (nW u) j), nI (sumN (rdN u) j), nI (sumN (fun i => u (13 + 4 * i) + u (15 + 4 * i)) j), nI j)) 48 (by
    rintro j hj v rfl
    exact ⟨_, rfl, fun k => by rw [road18 hr h hu hj]; simp only [nI_add, sumN]⟩) (a := (0, 0, 0, 0, 0)) rfl (by omega)
  subst hv
  rw [e1]
  unfold f_L_road_l18
  rw [if_pos (show (48 : Int32) ≤ nI 48 by decide)]
  clear e1
  have h300 := fun v18 => lp_for1 (f_L_road_l300 x a d e t v18) (fun j v => v = (nI (sumN (nD u) j), nI (sumN (fun i => u (13 + 4 * i) + u (15 + 4 * i)) 48 + sumN (fun i => u (205 + 2 * i)) j), nI j)) 32 (by
    rintro j hj v rfl
    exact ⟨_, rfl, fun k => by rw [road300 hr h hu hj]; simp only [nI_add, sumN, Nat.add_assoc]⟩) (a := (0, nI (sumN (fun i => u (13 + 4 * i) + u (15 + 4 * i)) 48), 0)) rfl (by omega)
  obtain ⟨v, m, hv, e1⟩ := h300 (nI (sumN (nA u) 48), nI (sumN (nW u) 48), nI (sumN (rdN u) 48), nI (sumN (fun i => u (13 + 4 * i) + u (15 + 4 * i)) 48), nI 48)
  subst hv
  rw [e1]
  unfold f_L_road_l300
  rw [if_pos (show (32 : Int32) ≤ nI 32 by decide)]
  clear e1 h300
  refine lpN_rule (f_L_road_l392 a d t _ _) (fun _ res => ∃ dr, res = some (1, (x.1, x.2.1, x.2.2.1, x.2.2.2.1, x.2.2.2.2.1, dr))) (fun v => ∃ j dr, j ≤ 6 ∧ v = (nI j, (x.1, x.2.1, x.2.2.1, x.2.2.2.1, x.2.2.2.2.1, dr))) (fun v => 6 - v.1.toNatClampNeg) ?_ 7 (0, x) ⟨0, x.2.2.2.2.2, by omega, rfl⟩ (by show 6 - (0 : Int32).toNatClampNeg < 7; omega)
  rintro k v ⟨j, dr, hj, rfl⟩ hk
  by_cases h6 : j = 6
  · subst h6
    refine ⟨dr, ?_⟩
    have t0 : f_X5_total (x.1, x.2.1, x.2.2.1, x.2.2.2.1, x.2.2.2.2.1, dr) 0 = _ := total_0 hr hu
    have t1 : f_X5_total (x.1, x.2.1, x.2.2.1, x.2.2.2.1, x.2.2.2.2.1, dr) 1 = _ := total_1 hr hu
    have t2 : f_X5_total (x.1, x.2.1, x.2.2.1, x.2.2.2.1, x.2.2.2.2.1, dr) 2 = _ := total_2 hr hu
    have t3 : f_X5_total (x.1, x.2.1, x.2.2.1, x.2.2.2.1, x.2.2.2.2.1, dr) 3 = _ := total_3 hr hu
    have t4 : f_X5_total (x.1, x.2.1, x.2.2.1, x.2.2.2.1, x.2.2.2.2.1, dr) 4 = _ := tot5_4
    have t5 : f_X5_total (x.1, x.2.1, x.2.2.1, x.2.2.2.1, x.2.2.2.2.1, dr) 5 = _ := tot5_5
    have t6 : f_X5_total (x.1, x.2.1, x.2.2.1, x.2.2.2.1, x.2.2.2.2.1, dr) 6 = _ := tot5_6
    have t7 : f_X5_total (x.1, x.2.1, x.2.2.1, x.2.2.2.1, x.2.2.2.2.1, dr) 7 = _ := tot5_7
    have t8 : f_X5_total (x.1, x.2.1, x.2.2.1, x.2.2.2.1, x.2.2.2.2.1, dr) 8 = _ := tot5_8
    have t9 : f_X5_total (x.1, x.2.1, x.2.2.1, x.2.2.2.1, x.2.2.2.2.1, dr) 9 = _ := total_9 hr
    have t10 : f_X5_total (x.1, x.2.1, x.2.2.1, x.2.2.2.1, x.2.2.2.2.1, dr) 10 = _ := tot5_10
    have t11 : f_X5_total (x.1, x.2.1, x.2.2.1, x.2.2.2.1, x.2.2.2.2.1, dr) 11 = _ := tot5_11
    have t12 : f_X5_total (x.1, x.2.1, x.2.2.1, x.2.2.2.1, x.2.2.2.2.1, dr) 12 = _ := tot5_12
    have t13 : f_X5_total (x.1, x.2.1, x.2.2.1, x.2.2.2.1, x.2.2.2.2.1, dr) 13 = _ := tot5_13
    have t14 : f_X5_total (x.1, x.2.1, x.2.2.1, x.2.2.2.1, x.2.2.2.2.1, dr) 14 = _ := tot5_14
    have r4 : x.1.2.2.2.2.2.1 = t 5 := by rw [hr.2.2.2.2.2, h.2.2 5 (by omega)]
    have r10 : x.1.2.2.2.1 0 = t 2 := by rw [hr.2.2.2.1 0 (by omega), h.2.2 2 (by omega)]
    have r11 : x.1.2.2.2.1 1 = t 3 := by rw [hr.2.2.2.1 1 (by omega), h.2.2 3 (by omega)]
    have r12 : x.1.2.2.2.1 2 = t 4 := by rw [hr.2.2.2.1 2 (by omega), h.2.2 4 (by omega)]
    have r13 : x.1.2.2.2.2.1 0 = t 0 := by rw [hr.2.2.2.2.1 0 (by omega), h.2.2 0 (by omega)]
    have r14 : x.1.2.2.2.2.1 1 = t 1 := by rw [hr.2.2.2.2.1 1 (by omega), h.2.2 1 (by omega)]
    unfold f_L_road_l392
    rw [if_pos (show (6 : Int32) ≤ nI 6 by decide)]
    simp only [t0, t1, t2, t3, t4, t5, t6, t7, t8, t9, t10, t11, t12, t13, t14, Option.bind_some, ↓reduceIte, tc0, tg0, tc1, tg1, tc2, tg2, tc3, tg3, tc4, tg4, tc5, tg5, tc6, tg6, tc7, tg7, tc8, tg8, tc9, tg9, r4, hc.1, hc.2.1, hc.2.2.1, hc.2.2.2, r10, r11, r12, r13, r14]
  · obtain ⟨dr', g⟩ := road392 (x := (x.1, x.2.1, x.2.2.1, x.2.2.2.1, x.2.2.2.2.1, dr)) hr h hu (show j < 6 by omega) (nI (sumN (nA u) 48), nI (sumN (nW u) 48), nI (sumN (rdN u) 48), nI (sumN (fun i => u (13 + 4 * i) + u (15 + 4 * i)) 48), nI 48) (nI (sumN (nD u) 32), nI (sumN (fun i => u (13 + 4 * i) + u (15 + 4 * i)) 48 + sumN (fun i => u (205 + 2 * i)) 32), nI 32)
    rw [g]
    refine hk _ ⟨j + 1, dr', by omega, rfl⟩ ?_
    show 6 - (nI (j + 1)).toNatClampNeg < 6 - (nI j).toNatClampNeg
    rw [nI_clamp (by omega), nI_clamp (by omega)]; omega
end RO
