/-! each kind of the law's word -/
def GO (L : Nat) (xs : Nat → Int32) (k111 : TLv → Option Int32) (v111 : TLv) : Prop := ∀ x' a' p' w' q' d' e' t', LR x' a' p' w' q' d' e' t' → f_L_law_j960 L xs k111 v111 (1, x', a', p', w', q', d', e', t') = some 1
theorem wv_s (k : Nat) : wv (k + 1) = nI k := by
  unfold wv
  rw [if_neg (by omega), Nat.add_sub_cancel]
section KI
variable {L : Nat} {xs : Nat → Int32} {u : Nat → Nat} {a p w q d e t : Nat → Int32} {x : TX5s} {k111 : TLv → Option Int32} {N : Int32}
theorem LR.nx {u' : Nat → Nat} {a' p' w' q' d' e' t' : Nat → Int32} {x' : TX5s} (hN : Nx u' x x') (hc : Cnt x.1 t) (hA : AR u' a' p' w' q' d' e' t') (ht : ∀ i, 6 ≤ i → t' i = t i) : LR x' a' p' w' q' d' e' t' := by
  obtain ⟨n1, n2, n3, n4⟩ := hN
  refine ⟨⟨u', n1, n2, hA⟩, ?_, n3⟩
  unfold Cnt
  rw [n4, ht 6 (by omega), ht 7 (by omega), ht 8 (by omega), ht 9 (by omega)]
  exact hc
theorem one_add (v : Nat) : (1 : Int32) + nI v = nI (1 + v) := by rw [li1, nI_add]
theorem two_add (v : Nat) : (2 : Int32) + nI v = nI (2 + v) := by rw [li2, nI_add]
theorem cntA {u' : Nat → Nat} {a' p' w' q' d' e' t' : Nat → Int32} (hA : AR u' a' p' w' q' d' e' t') (hu' : UOk u') (x0 : TX5s) (l b k r : Int32) (v111 : TLv) : ∃ m, f_L_law_j222 L xs k111 v111 l b k r (x0, a', p', w', q', d', e', t') = f_L_law_l225 L xs k111 v111 l b k r (x0, a', p', w', q', d', e', t') (lpN (f_L_law_l225 L xs k111 v111 l b k r (x0, a', p', w', q', d', e', t')) m) (nI (sumN (nA u') 48), nI 48) := by
  unfold f_L_law_j222
  refine lp_sum (f_L_law_l225 L xs k111 v111 l b k r (x0, a', p', w', q', d', e', t')) (nA u') nI 48 (by omega) ?_
  intro k9 a0 j hj
  obtain ⟨e1, -, -, -⟩ := hA.1 j hj
  have g3 := (hu'.A hj).2.2
  unfold f_L_law_l225
  rw [if_neg (show ¬ (48 : Int32) ≤ nI j by rw [li48, nI_leI (by omega) (by omega)]; omega)]
  simp only [nI_clamp (show j < 2 ^ 31 by omega), g_in2 hj (show 48 < 2 ^ 31 by omega), ↓reduceIte, e1, wv_neg (show u' (12 + 4 * j) < 2 ^ 30 by omega), Int32.add_zero, nI_1]
  unfold nA
  by_cases c : u' (12 + 4 * j) = 0
  · simp only [if_pos c, Nat.add_zero]
  · simp only [if_neg c]
theorem kArrow (h : LR x a p w q d e t) {l b k : Nat} (hl : l < 3) (hb : b < 16) (hk : k < 3) (hg : GO L xs k111 (N, x, a, p, w, q, d, e, t)) : ((f_L_reason a d (nI l) (nI b) (nI k)).bind fun t165 => if t165 = 0 then (if ((16 * nI l) + nI b) < 0 ∨ 48 ≤ ((16 * nI l) + nI b).toNatClampNeg then none else if ((16 * nI l) + nI b) < 0 ∨ 48 ≤ ((16 * nI l) + nI b).toNatClampNeg then none else f_L_law_j222 L xs k111 (N, x, a, p, w, q, d, e, t) (nI l) (nI b) (nI k) t165 (x, upd a ((16 * nI l) + nI b).toNatClampNeg (nI k), upd p ((16 * nI l) + nI b).toNatClampNeg 100, w, q, d, e, t)) else f_L_law_j222 L xs k111 (N, x, a, p, w, q, d, e, t) (nI l) (nI b) (nI k) t165 (x, a, p, w, q, d, e, t)) = some 1 := by
  obtain ⟨⟨u, hr, hu, hA⟩, hc, hh⟩ := h
  obtain ⟨c1, h1, g1, n1⟩ := near_up hr hu hl hb
  obtain ⟨c3, h3, g3, n3⟩ := near_dn hr hu hl hb
  obtain ⟨y1, y2⟩ := arrowC hr hu hh hl hb hk h1 h3 g1 g3
  have hw := whyNotC hr hu hl hb hk h1 h3 g1 g3
  rw [reason_u hA hu hl hb hk n1 n3, Option.bind_some]
  have hi : 16 * l + b < 48 := by omega
  have hle := @reasonN_le u l b k c1 c3
  generalize reasonN u l b k c1 c3 = ρ at y1 y2 hw hle ⊢
  by_cases h0 : ρ = 0
  · obtain ⟨x', y3, y4⟩ := y2 h0
    subst h0
    rw [if_pos (show nI 0 = 0 from rfl)]
    have hA' : AR (set2 u (12 + 4 * (16 * l + b)) (k + 1) 100) (upd a (16 * l + b) (nI k)) (upd p (16 * l + b) 100) w q d e t := by
      refine hA.cell (i := 16 * l + b) (fun j hj hj2 => set2_n (by omega) (by omega)) hi (fun j hj => ⟨upd_ne hj, upd_ne hj, rfl, rfl⟩) ?_ ?_ ?_ ?_
      · rw [upd_eq, set2_0]; exact (wv_s k).symm
      · rw [upd_eq, show 13 + 4 * (16 * l + b) = 12 + 4 * (16 * l + b) + 1 by omega, set2_1]; rfl
      · rw [set2_n (by omega) (by omega)]; exact (hA.1 _ hi).2.2.1
      · rw [set2_n (by omega) (by omega)]; exact (hA.1 _ hi).2.2.2
    simp only [ix16', nI_clamp (show 16 * l + b < 2 ^ 31 by omega), g_in2 hi (show 48 < 2 ^ 31 by omega), ↓reduceIte]
    obtain ⟨m, hm⟩ := cntA (L := L) (xs := xs) (k111 := k111) hA' y4.2.1 x (nI l) (nI b) (nI k) (nI 0) (N, x, a, p, w, q, d, e, t)
    rw [hm]
    unfold f_L_law_l225
    rw [if_pos (show (48 : Int32) ≤ nI 48 by decide)]
    simp only [hw, Option.bind_some, ↓reduceIte, y3]
    rw [if_pos (show nI 0 ≤ 0 by decide)]
    unfold f_L_law_j292 f_L_law_j300
    simp only [↓reduceIte]
    exact hg _ _ _ _ _ _ _ _ (LR.nx y4 hc hA' (fun _ _ => rfl))
  · have y3 := y1 h0
    have hne : ¬ nI ρ = 0 := by rw [eq0 (by omega)]; exact h0
    have hnl : ¬ nI ρ ≤ 0 := by rw [le0 (by omega)]; exact h0
    rw [if_neg hne]
    obtain ⟨m, hm⟩ := cntA (L := L) (xs := xs) (k111 := k111) hA hu x (nI l) (nI b) (nI k) (nI ρ) (N, x, a, p, w, q, d, e, t)
    rw [hm]
    unfold f_L_law_l225
    rw [if_pos (show (48 : Int32) ≤ nI 48 by decide)]
    simp only [hw, Option.bind_some, ↓reduceIte, y3, if_neg hnl]
    unfold f_L_law_j292 f_L_law_j300
    simp only [↓reduceIte]
    exact hg _ _ _ _ _ _ _ _ ⟨⟨u, hr, hu, hA⟩, hc, hh⟩
theorem kWord (h : LR x a p w q d e t) {l b k : Nat} (hl : l < 3) (hb : b < 16) (hk : k < 4) (hg : GO L xs k111 (N, x, a, p, w, q, d, e, t)) : lpN (f_L_law_l339 L xs k111 (N, x, a, p, w, q, d, e, t) (nI l) (nI b) (nI k)) 3000 (0, 0) = some 1 := by
  obtain ⟨⟨u, hr, hu, hA⟩, hc, hh⟩ := h
  obtain ⟨x', y3, y4⟩ := wordC hr hu hh hl hb hk
  have hi : 16 * l + b < 48 := by omega
  have hA' : AR (set2 u (14 + 4 * (16 * l + b)) (k + 1) 100) a p (upd w (16 * l + b) (nI k)) (upd q (16 * l + b) 100) d e t := by
    refine hA.cell (i := 16 * l + b) (fun j hj hj2 => set2_n (by omega) (by omega)) hi (fun j hj => ⟨rfl, rfl, upd_ne hj, upd_ne hj⟩) ?_ ?_ ?_ ?_
    · rw [set2_n (by omega) (by omega)]; exact (hA.1 _ hi).1
    · rw [set2_n (by omega) (by omega)]; exact (hA.1 _ hi).2.1
    · rw [upd_eq, set2_0]; exact (wv_s k).symm
    · rw [upd_eq, show 15 + 4 * (16 * l + b) = 14 + 4 * (16 * l + b) + 1 by omega, set2_1]; rfl
  have hm : ∃ m, lpN (f_L_law_l339 L xs k111 (N, x, a, p, w, q, d, e, t) (nI l) (nI b) (nI k)) 3000 (0, 0) = f_L_law_l339 L xs k111 (N, x, a, p, w, q, d, e, t) (nI l) (nI b) (nI k) (lpN (f_L_law_l339 L xs k111 (N, x, a, p, w, q, d, e, t) (nI l) (nI b) (nI k)) m) (nI (sumN (nW (set2 u (14 + 4 * (16 * l + b)) (k + 1) 100)) 48), nI 48) := by
    refine lp_sum (f_L_law_l339 L xs k111 (N, x, a, p, w, q, d, e, t) (nI l) (nI b) (nI k)) (nW (set2 u (14 + 4 * (16 * l + b)) (k + 1) 100)) nI 48 (by omega) ?_
    intro k9 a0 j hj
    obtain ⟨-, -, e3, -⟩ := hA'.1 j hj
    have g3 := (y4.2.1.W hj).2.2
    unfold f_L_law_l339
    rw [if_neg (show ¬ (48 : Int32) ≤ nI j by rw [li48, nI_leI (by omega) (by omega)]; omega)]
    simp only [ix16', nI_clamp (show 16 * l + b < 2 ^ 31 by omega), nI_clamp (show j < 2 ^ 31 by omega), g_in2 hj (show 48 < 2 ^ 31 by omega), ↓reduceIte, e3, wv_neg (show set2 u (14 + 4 * (16 * l + b)) (k + 1) 100 (14 + 4 * j) < 2 ^ 30 by omega), Int32.add_zero, nI_1]
    unfold nW
    by_cases c : set2 u (14 + 4 * (16 * l + b)) (k + 1) 100 (14 + 4 * j) = 0
    · simp only [if_pos c, Nat.add_zero]
    · simp only [if_neg c]
  obtain ⟨m, hm⟩ := hm
  rw [hm]
  unfold f_L_law_l339
  rw [if_pos (show (48 : Int32) ≤ nI 48 by decide)]
  simp only [ix16', nI_clamp (show 16 * l + b < 2 ^ 31 by omega), g_in2 hi (show 48 < 2 ^ 31 by omega), ↓reduceIte, upd_eq, y3, Option.bind_some]
  unfold f_L_law_j393
  simp only [ix16', nI_clamp (show 16 * l + b < 2 ^ 31 by omega)]
  exact hg _ _ _ _ _ _ _ _ (LR.nx y4 hc hA' (fun _ _ => rfl))
theorem kDash (h : LR x a p w q d e t) {l b k : Nat} (hl : l < 2) (hb : b < 16) (hk : k < 4) (hg : GO L xs k111 (N, x, a, p, w, q, d, e, t)) : ((f_X5_dash x (((16 * nI l) + nI b) / 16) (nI b) (nI k)).bind fun t145 => if ((16 * nI l) + nI b) < 0 ∨ 32 ≤ ((16 * nI l) + nI b).toNatClampNeg then none else if t145.1 = d ((16 * nI l) + nI b).toNatClampNeg then f_L_law_j459 L xs k111 (N, x, a, p, w, q, d, e, t) (nI b) (nI l) (nI k) t145 1 else f_L_law_j459 L xs k111 (N, x, a, p, w, q, d, e, t) (nI b) (nI l) (nI k) t145 0) = some 1 := by
  obtain ⟨⟨u, hr, hu, hA⟩, hc, hh⟩ := h
  obtain ⟨x', y3, y4⟩ := dashC hr hu hh hl hb hk
  have hi : 16 * l + b < 32 := by omega
  have dv : nI (16 * l + b) / 16 = nI l := by rw [li16, pk_div (by omega) (by omega) (by omega), show (16 * l + b) / 16 = l by omega]
  have e1 := (hA.2.1 (16 * l + b) hi).1
  have hA' : AR (set2 u (204 + 2 * (16 * l + b)) k (if k = 0 then 0 else 100)) a p w q (upd d (16 * l + b) (nI k)) (upd e (16 * l + b) (nI (if k = 0 then 0 else 100))) t := by
    refine hA.line (i := 16 * l + b) (fun j hj hj2 => set2_n (by omega) (by omega)) hi (fun j hj => ⟨upd_ne hj, upd_ne hj⟩) ?_ ?_
    · rw [upd_eq, set2_0]
    · rw [upd_eq, show 205 + 2 * (16 * l + b) = 204 + 2 * (16 * l + b) + 1 by omega, set2_1]
  simp only [ix16', dv, nI_clamp (show 16 * l + b < 2 ^ 31 by omega), g_in2 hi (show 32 < 2 ^ 31 by omega), ↓reduceIte, y3, Option.bind_some, e1]
  unfold f_L_law_j459 f_L_law_j483
  simp only [ix16', nI_clamp (show 16 * l + b < 2 ^ 31 by omega), g_in2 hi (show 32 < 2 ^ 31 by omega), ↓reduceIte, eq0 (show k < 2 ^ 31 by omega)]
  by_cases h0 : k = 0
  · simp only [if_pos h0] at hA' y4 ⊢
    exact hg _ _ _ _ _ _ _ _ (LR.nx y4 hc hA' (fun _ _ => rfl))
  · simp only [if_neg h0] at hA' y4 ⊢
    exact hg _ _ _ _ _ _ _ _ (LR.nx y4 hc hA' (fun _ _ => rfl))
theorem kErase (h : LR x a p w q d e t) {l b : Nat} (hl : l < 3) (hb : b < 16) (hg : GO L xs k111 (N, x, a, p, w, q, d, e, t)) : ((f_X5_erase x (nI l) (nI b)).bind fun t129 => if ((16 * nI l) + nI b) < 0 ∨ 48 ≤ ((16 * nI l) + nI b).toNatClampNeg then none else if a ((16 * nI l) + nI b).toNatClampNeg < 0 then f_L_law_j526 L xs k111 (N, x, a, p, w, q, d, e, t) (nI l) (nI b) t129 0 else f_L_law_j526 L xs k111 (N, x, a, p, w, q, d, e, t) (nI l) (nI b) t129 1) = some 1 := by
  obtain ⟨⟨u, hr, hu, hA⟩, hc, hh⟩ := h
  obtain ⟨x', y3, y4⟩ := eraseC hr hu hh hl hb
  have hi : 16 * l + b < 48 := by omega
  obtain ⟨e1, -, e3, -⟩ := hA.1 (16 * l + b) hi
  have gA := (hu.A hi).2.2
  have gW := (hu.W hi).2.2
  have hA' : AR (set2 (set2 u (12 + 4 * (16 * l + b)) 0 0) (14 + 4 * (16 * l + b)) 0 0) (upd a (16 * l + b) (-1)) (upd p (16 * l + b) 0) (upd w (16 * l + b) (-1)) (upd q (16 * l + b) 0) d e t := by
    refine hA.cell (i := 16 * l + b) (fun j hj hj2 => (set2_n (by omega) (by omega)).trans (set2_n (by omega) (by omega))) hi (fun j hj => ⟨upd_ne hj, upd_ne hj, upd_ne hj, upd_ne hj⟩) ?_ ?_ ?_ ?_
    · rw [upd_eq, set2_n (by omega) (by omega), set2_0]; rfl
    · rw [upd_eq, set2_n (by omega) (by omega), show 13 + 4 * (16 * l + b) = 12 + 4 * (16 * l + b) + 1 by omega, set2_1]; rfl
    · rw [upd_eq, set2_0]; rfl
    · rw [upd_eq, show 15 + 4 * (16 * l + b) = 14 + 4 * (16 * l + b) + 1 by omega, set2_1]; rfl
  have hend : ∀ y z : Int32, nI (nA u (16 * l + b) + nW u (16 * l + b)) = y + z → f_L_law_j539 L xs k111 (N, x, a, p, w, q, d, e, t) (nI l) (nI b) (nI (nA u (16 * l + b) + nW u (16 * l + b)), x') y z = some 1 := by
    intro y z hyz
    unfold f_L_law_j539 f_L_law_j548
    rw [if_pos hyz]
    simp only [ix16', nI_clamp (show 16 * l + b < 2 ^ 31 by omega), g_in2 hi (show 48 < 2 ^ 31 by omega), ↓reduceIte]
    exact hg _ _ _ _ _ _ _ _ (LR.nx y4 hc hA' (fun _ _ => rfl))
  simp only [y3, Option.bind_some, ix16', nI_clamp (show 16 * l + b < 2 ^ 31 by omega), g_in2 hi (show 48 < 2 ^ 31 by omega), ↓reduceIte, e1]
  refine (bitS (fun z => f_L_law_j526 L xs k111 (N, x, a, p, w, q, d, e, t) (nI l) (nI b) (nI (nA u (16 * l + b) + nW u (16 * l + b)), x') z) (by omega)).trans ?_
  show f_L_law_j526 L xs k111 (N, x, a, p, w, q, d, e, t) (nI l) (nI b) (nI (nA u (16 * l + b) + nW u (16 * l + b)), x') (nI (if u (12 + 4 * (16 * l + b)) = 0 then 0 else 1)) = some 1
  unfold f_L_law_j526
  simp only [ix16', nI_clamp (show 16 * l + b < 2 ^ 31 by omega), g_in2 hi (show 48 < 2 ^ 31 by omega), ↓reduceIte, e3]
  refine (bitS (fun z => f_L_law_j539 L xs k111 (N, x, a, p, w, q, d, e, t) (nI l) (nI b) (nI (nA u (16 * l + b) + nW u (16 * l + b)), x') (nI (if u (12 + 4 * (16 * l + b)) = 0 then 0 else 1)) z) (by omega)).trans ?_
  exact hend _ _ (by rw [nI_add]; rfl)
/-- a number in the rows -/
theorem AR.one {i v : Nat} (hA : AR u a p w q d e t) (hi : i < 6) : AR (low1 u i v) a p w q d e (upd t i (nI v)) := by
  refine hA.num (fun k h6 hk => low1_n (by omega)) (fun j hj => ?_)
  by_cases e : j = i
  · rw [e, upd_eq, low1_i]
  · rw [upd_ne e, low1_n e]; exact hA.2.2 j hj
theorem kSet (h : LR x a p w q d e t) {i m : Nat} (hi : i < 2) (hm : m = if i = 0 then 100 else 40) (t9 : Int32) (hg : GO L xs k111 (N, x, a, p, w, q, d, e, t)) : f_L_law_j611 L xs k111 (N, x, a, p, w, q, d, e, t) t9 (nI i) (nI m) = some 1 := by
  obtain ⟨⟨u, hr, hu, hA⟩, hc, hh⟩ := h
  have hm2 : 0 < m ∧ m ≤ 100 := by rw [hm]; split <;> omega
  obtain ⟨v, hv, e1⟩ := low_u (t9 >>> ((12 : Int32) &&& 31)) (c := nI m) rfl hm2.1 (by omega)
  obtain ⟨x', y3, y4⟩ := setC_u hr hu hh hi (show 1 ≤ 1 + v by omega) (by rw [← hm]; omega)
  have e2 := hA.2.2 i (by omega)
  have hA' := hA.one (i := i) (v := 1 + v) (by omega)
  unfold f_L_law_j611
  simp only [e1, Option.bind_some, one_add, y3, nI_clamp (show i < 2 ^ 31 by omega), g_in2 (show i < 10 by omega) (show 10 < 2 ^ 31 by omega), ↓reduceIte, e2]
  unfold f_L_law_j638
  simp only [one_add, nI_clamp (show i < 2 ^ 31 by omega), g_in2 (show i < 10 by omega) (show 10 < 2 ^ 31 by omega), ↓reduceIte]
  exact hg _ _ _ _ _ _ _ _ (LR.nx y4 hc hA' (fun j hj => upd_ne (by omega)))
theorem kTraffic (h : LR x a p w q d e t) {l : Nat} (hl : l < 3) (t9 : Int32) (hg : GO L xs k111 (N, x, a, p, w, q, d, e, t)) : ((f_L_low (t9 >>> ((11 : Int32) &&& 31)) 21).bind fun t108 => (f_X5_traffic x (nI l) t108).bind fun t110 => if (2 + nI l) < 0 ∨ 10 ≤ (2 + nI l).toNatClampNeg then none else if t110.1 = t (2 + nI l).toNatClampNeg then f_L_law_j692 L xs k111 (N, x, a, p, w, q, d, e, t) (nI l) t108 t110 1 else f_L_law_j692 L xs k111 (N, x, a, p, w, q, d, e, t) (nI l) t108 t110 0) = some 1 := by
  obtain ⟨⟨u, hr, hu, hA⟩, hc, hh⟩ := h
  obtain ⟨v, hv, e1⟩ := low_u (t9 >>> ((11 : Int32) &&& 31)) li21 (by omega) (by omega)
  obtain ⟨x', y3, y4⟩ := trafficC hr hu hh hl (show v ≤ 20 by omega)
  have e2 := hA.2.2 (2 + l) (by omega)
  have hA' := hA.one (i := 2 + l) (v := v) (by omega)
  simp only [e1, Option.bind_some, two_add, y3, nI_clamp (show 2 + l < 2 ^ 31 by omega), g_in2 (show 2 + l < 10 by omega) (show 10 < 2 ^ 31 by omega), ↓reduceIte, e2]
  unfold f_L_law_j692
  simp only [two_add, nI_clamp (show 2 + l < 2 ^ 31 by omega), g_in2 (show 2 + l < 10 by omega) (show 10 < 2 ^ 31 by omega), ↓reduceIte]
  exact hg _ _ _ _ _ _ _ _ (LR.nx y4 hc hA' (fun j hj => upd_ne (by omega)))
theorem kBring (h : LR x a p w q d e t) (t9 : Int32) (hg : GO L xs k111 (N, x, a, p, w, q, d, e, t)) : ((f_L_low (t9 >>> ((11 : Int32) &&& 31)) 99).bind fun t96 => (f_X5_bring x (1 + t96)).bind fun t98 => if (5 : Int32) < 0 ∨ 10 ≤ (5 : Int32).toNatClampNeg then none else if (t (5 : Int32).toNatClampNeg + (1 + t96)) ≤ 99 then (if (5 : Int32) < 0 ∨ 10 ≤ (5 : Int32).toNatClampNeg then none else f_L_law_j757 L xs k111 (N, x, a, p, w, q, d, e, t) t96 t98 (t (5 : Int32).toNatClampNeg + (1 + t96))) else f_L_law_j757 L xs k111 (N, x, a, p, w, q, d, e, t) t96 t98 (-4)) = some 1 := by
  obtain ⟨⟨u, hr, hu, hA⟩, hc, hh⟩ := h
  obtain ⟨v, hv, e1⟩ := low_u (t9 >>> ((11 : Int32) &&& 31)) li99 (by omega) (by omega)
  obtain ⟨y1, y2⟩ := bringC hr hu hh (show 1 ≤ 1 + v by omega) (show 1 + v ≤ 99 by omega)
  have e2 := hA.2.2 5 (by omega)
  have h5 := hu.c5
  have hle : (nI (u 5 + (1 + v)) ≤ 99) = (u 5 + (1 + v) ≤ 99) := by rw [li99, nI_leI (by omega) (by omega)]
  by_cases h9 : u 5 + (1 + v) ≤ 99
  · obtain ⟨x', y3, y4⟩ := y2 h9
    have hA' := hA.one (i := 5) (v := u 5 + (1 + v)) (by omega)
    simp only [e1, Option.bind_some, one_add, y3, tc0, tg0, tc1, tg1, tc2, tg2, tc3, tg3, tc4, tg4, tc5, tg5, tc6, tg6, tc7, tg7, tc8, tg8, tc9, tg9, ↓reduceIte, e2, nI_add, hle, h9]
    unfold f_L_law_j757 f_L_law_j765 f_L_law_j790
    simp only [↓reduceIte, one_add, tc0, tg0, tc1, tg1, tc2, tg2, tc3, tg3, tc4, tg4, tc5, tg5, tc6, tg6, tc7, tg7, tc8, tg8, tc9, tg9, e2, nI_add, hle, h9]
    exact hg _ _ _ _ _ _ _ _ (LR.nx y4 hc hA' (fun j hj => upd_ne (by omega)))
  · have y3 := y1 (by omega)
    simp only [e1, Option.bind_some, one_add, y3, tc0, tg0, tc1, tg1, tc2, tg2, tc3, tg3, tc4, tg4, tc5, tg5, tc6, tg6, tc7, tg7, tc8, tg8, tc9, tg9, ↓reduceIte, e2, nI_add, hle, h9]
    unfold f_L_law_j757 f_L_law_j765 f_L_law_j790
    simp only [↓reduceIte, one_add, tc0, tg0, tc1, tg1, tc2, tg2, tc3, tg3, tc4, tg4, tc5, tg5, tc6, tg6, tc7, tg7, tc8, tg8, tc9, tg9, e2, nI_add, hle, h9, Int32.add_zero]
    rw [← e2, fa_same]
    exact hg _ _ _ _ _ _ _ _ ⟨⟨u, hr, hu, hA⟩, hc, hh⟩
theorem kPass (h : LR x a p w q d e t) {m : Nat} (h0 : 0 < m) (hm : m ≤ 29) (t9 : Int32) (hg : GO L xs k111 (N, x, a, p, w, q, d, e, t)) : f_L_law_j897 L xs k111 (N, x, a, p, w, q, d, e, t) t9 (nI m) = some 1 := by
  obtain ⟨⟨u, hr, hu, hA⟩, hc, hh⟩ := h
  obtain ⟨v, hv, e1⟩ := low_u (t9 >>> ((11 : Int32) &&& 31)) (c := nI m) rfl h0 (by omega)
  obtain ⟨x', y1, y2, y3, y4, y5, y6, y7⟩ := passC hr hu hh (show 1 ≤ 1 + v by omega) (show 1 + v ≤ 30 by omega)
  unfold f_L_law_j897
  simp only [e1, Option.bind_some]
  generalize hn : 1 + v = n at *
  have en : (1 : Int32) + nI v = nI n := by rw [one_add, hn]
  have hn9 : n ≤ 30 := by omega
  obtain ⟨V, m9, hV, hq⟩ := lp_for1 (f_L_law_l909 L xs k111 (N, x, a, p, w, q, d, e, t) (nI v)) (fun j V => ∃ a' p' w' q' d' e' t', V = (nI (gnI u j), nI j, x, a', p', w', q', d', e', t') ∧ AR (dyI u j) a' p' w' q' d' e' t' ∧ t' 6 = t 6 + nI j ∧ t' 7 = t 7 ∧ t' 8 = t 8 ∧ t' 9 = t 9 + nI (gnI u j)) n (by
    rintro j hj V ⟨a', p', w', q', d', e', t', rfl, f1, f6, f7, f8, f9⟩
    obtain ⟨a2, p2, w2, q2, d2, e2, t2, g1, g2, g6, g7, g8, g9⟩ := dayL_u f1 (dyI_ok hu j)
    refine ⟨_, ⟨a2, p2, w2, q2, d2, e2, t2, rfl, g2, ?_, g7.trans f7, g8.trans f8, ?_⟩, fun k => ?_⟩
    · rw [g6, f6, Int32.add_assoc, nI_1]
    · rw [g9, f9, Int32.add_assoc, nI_add]; rfl
    · unfold f_L_law_l909
      rw [en, if_neg (show ¬ nI n ≤ nI j by rw [nI_leI (by omega) (by omega)]; omega)]
      simp only [g1, Option.bind_some, nI_add, nI_1]
      rfl) (a := (0, 0, x, a, p, w, q, d, e, t)) ⟨a, p, w, q, d, e, t, rfl, hA, (Int32.add_zero _).symm, rfl, rfl, (Int32.add_zero _).symm⟩ (by omega)
  obtain ⟨a', p', w', q', d', e', t', rfl, f1, f6, f7, f8, f9⟩ := hV
  refine hq.trans ?_
  unfold f_L_law_l909
  rw [en, if_pos (show nI n ≤ nI n from Int32.le_refl _)]
  simp only [y1, Option.bind_some, ↓reduceIte]
  unfold f_L_law_j958
  refine hg _ _ _ _ _ _ _ _ ⟨⟨dyI u n, y2, dyI_ok hu n, f1⟩, ⟨?_, ?_, ?_, ?_⟩, y3⟩
  · rw [y4, hc.1]; exact f6.symm
  · rw [y5, hc.2.1]; exact f7.symm
  · rw [y6, hc.2.2.1]; exact f8.symm
  · rw [y7, hc.2.2.2]; exact f9.symm
theorem nightC (hr : RdU u x.1) (hu : UOk u) (hh : HS x.2.2.2.1) {b c : Nat} (hb : b < 16) (hc : c < 16) : (u 5 = 0 → f_X5_night x (nI b) (nI c) = some (-3, x)) ∧ (u 5 ≠ 0 → ∃ h', HS h' ∧ f_X5_night x (nI b) (nI c) = (f_X3_workNight x.1 (nI b) (nI c)).bind fun t6 => some (t6.1, (t6.2, x.2.1, x.2.2.1, h', x.2.2.2.2.1, x.2.2.2.2.2))) := by
  have h5 := hu.c5
  have he : f_X5_nightError x (nI b) (nI c) = if u 5 = 0 then some (-3) else some 0 := by
    unfold f_X5_nightError
    rw [isW, isW, in_yes li0 li15 (by omega) (show b ≤ 15 by omega) (by omega), in_yes li0 li15 (by omega) (show c ≤ 15 by omega) (by omega)]
    simp only [Option.bind_some, show ¬ (1 : Int32) = 0 by decide, ↓reduceIte, hr.2.2.2.2.2, eq0 (show u 5 < 2 ^ 31 by omega)]
  unfold f_X5_night
  constructor
  · intro h0
    rw [he, if_pos h0]
    rfl
  · intro h0
    obtain ⟨h', q1, q2⟩ := rcd hh hr hu
    refine ⟨h', q2, ?_⟩
    rw [he, if_neg h0]
    simp only [Option.bind_some, ↓reduceIte, q1]
theorem kNight (h : LR x a p w q d e t) {b : Nat} (hb : b < 16) (t9 : Int32) (hg : GO L xs k111 (N, x, a, p, w, q, d, e, t)) : ((f_L_low (t9 >>> ((11 : Int32) &&& 31)) 16).bind fun t86 => if (5 : Int32) < 0 ∨ 10 ≤ (5 : Int32).toNatClampNeg then none else if t (5 : Int32).toNatClampNeg ≤ 0 then f_L_law_j826 L xs k111 (N, x, a, p, w, q, d, e, t) (nI b) t86 0 else f_L_law_j826 L xs k111 (N, x, a, p, w, q, d, e, t) (nI b) t86 1) = some 1 := by
  obtain ⟨⟨u, hr, hu, hA⟩, hc, hh⟩ := h
  obtain ⟨c, hc2, e1⟩ := low_u (t9 >>> ((11 : Int32) &&& 31)) li16 (by omega) (by omega)
  obtain ⟨y1, y2⟩ := nightC hr hu hh hb hc2
  have e2 := hA.2.2 5 (by omega)
  have h5 := hu.c5
  simp only [e1, Option.bind_some, tc0, tg0, tc1, tg1, tc2, tg2, tc3, tg3, tc4, tg4, tc5, tg5, tc6, tg6, tc7, tg7, tc8, tg8, tc9, tg9, ↓reduceIte, e2, le0 (show u 5 < 2 ^ 31 by omega)]
  by_cases h0 : u 5 = 0
  · rw [if_pos h0]
    unfold f_L_law_j826
    simp only [y1 h0, Option.bind_some, ↓reduceIte]
    unfold f_L_law_j860 f_L_law_j868
    simp only [↓reduceIte]
    exact hg _ _ _ _ _ _ _ _ ⟨⟨u, hr, hu, hA⟩, hc, hh⟩
  · rw [if_neg h0]
    obtain ⟨h', y3, y4⟩ := y2 h0
    obtain ⟨A, u', r', p', q', e', t', g1, g2, g3, g4, g5, g6, g7, g8, g9, f6, f7, f8, f9⟩ := nightB hr hu hA hb hc2
    rw [g1, Option.bind_some] at y4
    unfold f_L_law_j826
    simp only [y4, g2, Option.bind_some, show ¬ (1 : Int32) = 0 by decide, ↓reduceIte]
    unfold f_L_law_j860 f_L_law_j868
    simp only [↓reduceIte]
    refine hg _ _ _ _ _ _ _ _ ⟨⟨u', g3, g4, g5⟩, ⟨?_, ?_, ?_, ?_⟩, y3⟩
    · rw [f6, ← hc.1]; exact g6
    · rw [f7, ← hc.2.1]; exact g7
    · rw [f8, ← hc.2.2.1]; exact g8
    · rw [f9, ← hc.2.2.2]; exact g9
theorem k575 (h : LR x a p w q d e t) {l b κ : Nat} (hl : l < 3) (hb : b < 16) (hκ : κ < 20) (t9 : Int32) (hg : GO L xs k111 (N, x, a, p, w, q, d, e, t)) : f_L_law_j575 L xs k111 (N, x, a, p, w, q, d, e, t) t9 (nI κ) (nI l) (nI b) () = some 1 := by
  unfold f_L_law_j575
  by_cases h13 : κ = 13
  · rw [if_pos (show nI κ = 13 by rw [h13]; rfl)]
    obtain ⟨i, hi, e1⟩ := low_u (t9 >>> ((11 : Int32) &&& 31)) li2 (by omega) (by omega)
    simp only [e1, Option.bind_some, eq0 (show i < 2 ^ 31 by omega)]
    by_cases h0 : i = 0
    · rw [if_pos h0]
      exact kSet h hi (m := 100) (by rw [if_pos h0]) t9 hg
    · rw [if_neg h0]
      exact kSet h hi (m := 40) (by rw [if_neg h0]) t9 hg
  · rw [if_neg (show ¬ nI κ = 13 by rw [li13, eqN (by omega) (by omega)]; exact h13)]
    by_cases h14 : κ = 14
    · rw [if_pos (show nI κ = 14 by rw [h14]; rfl)]
      exact kTraffic h hl t9 hg
    · rw [if_neg (show ¬ nI κ = 14 by rw [li14, eqN (by omega) (by omega)]; exact h14)]
      by_cases h15 : κ = 15
      · rw [if_pos (show nI κ = 15 by rw [h15]; rfl)]
        exact kBring h t9 hg
      · rw [if_neg (show ¬ nI κ = 15 by rw [li15, eqN (by omega) (by omega)]; exact h15)]
        by_cases h18 : 18 ≤ κ
        · rw [if_pos (show (18 : Int32) ≤ nI κ by rw [li18, nI_leI (by omega) (by omega)]; exact h18)]
          obtain ⟨i, hi, e1⟩ := low_u (t9 >>> ((25 : Int32) &&& 31)) li3 (by omega) (by omega)
          rw [e1, Option.bind_some]
          by_cases h0 : nI i = 0
          · rw [if_pos h0]
            exact kPass h (m := 12) (by omega) (by omega) t9 hg
          · rw [if_neg h0]
            exact kPass h (m := 4) (by omega) (by omega) t9 hg
        · rw [if_neg (show ¬ (18 : Int32) ≤ nI κ by rw [li18, nI_leI (by omega) (by omega)]; exact h18)]
          exact kNight h hb t9 hg
/-- a turn of the law -/
theorem step_u (hL : L ≤ 260) (h : LR x a p w q d e t) {n : Nat} (hn : n ≤ 70) (hk : n < 70 → ∀ x' a' p' w' q' d' e' t', LR x' a' p' w' q' d' e' t' → k111 (nI (n + 1), x', a', p', w', q', d', e', t') = some 1) : f_L_law_l111 L xs k111 (nI n, x, a, p, w, q, d, e, t) = some 1 := by
  unfold f_L_law_l111
  by_cases h70 : n = 70
  · rw [if_pos (show (70 : Int32) ≤ nI n by rw [h70]; decide)]
  rw [if_neg (show ¬ (70 : Int32) ≤ nI n by rw [li70, nI_leI (by omega) (by omega)]; omega)]
  obtain ⟨c2, h2⟩ := cell_u hL xs (k := 72 + n) (by omega)
  have hz : ∀ z, z = nI n → z + 1 = nI (n + 1) ∧ f_L_cell L xs (72 + z) = some c2 := by
    rintro z rfl
    exact ⟨nI_1 n, by rw [li72, nI_add]; exact h2⟩
  have hg : GO L xs k111 (nI n, x, a, p, w, q, d, e, t) := fun x' a' p' w' q' d' e' t' h' => turn_u (M := nI (n + 1)) (c := c2) xs h' k111 (nI n, x, a, p, w, q, d, e, t) (hz _ rfl).1 (hz _ rfl).2 (fun x'' h'' => hk (by omega) _ _ _ _ _ _ _ _ h'')
  obtain ⟨c, c1⟩ := cell_u hL xs (k := n) (by omega)
  obtain ⟨κ, hκ, e1⟩ := low_u c li20 (by omega) (by omega)
  obtain ⟨l, hl, e2⟩ := low_u (c >>> ((5 : Int32) &&& 31)) li3 (by omega) (by omega)
  obtain ⟨b, hb, e3⟩ := low_u (c >>> ((7 : Int32) &&& 31)) li16 (by omega) (by omega)
  rw [c1, Option.bind_some, e1, Option.bind_some, e2, Option.bind_some, e3, Option.bind_some]
  by_cases k6 : κ < 6
  · rw [if_neg (show ¬ (6 : Int32) ≤ nI κ by rw [li6, nI_leI (by omega) (by omega)]; omega)]
    obtain ⟨k, hk3, e4⟩ := low_u (c >>> ((11 : Int32) &&& 31)) li3 (by omega) (by omega)
    rw [e4, Option.bind_some]
    exact kArrow h hl hb hk3 hg
  rw [if_pos (show (6 : Int32) ≤ nI κ by rw [li6, nI_leI (by omega) (by omega)]; omega)]
  by_cases k9 : κ < 9
  · rw [if_neg (show ¬ (9 : Int32) ≤ nI κ by rw [li9, nI_leI (by omega) (by omega)]; omega)]
    obtain ⟨k, hk4, e4⟩ := low_u (c >>> ((11 : Int32) &&& 31)) li4 (by omega) (by omega)
    rw [e4, Option.bind_some, ix16', nI_clamp (show 16 * l + b < 2 ^ 31 by omega), if_neg (by rw [g_in2 (show 16 * l + b < 48 by omega) (show 48 < 2 ^ 31 by omega)]; exact id), if_neg (by rw [g_in2 (show 16 * l + b < 48 by omega) (show 48 < 2 ^ 31 by omega)]; exact id)]
    exact kWord h hl hb hk4 hg
  rw [if_pos (show (9 : Int32) ≤ nI κ by rw [li9, nI_leI (by omega) (by omega)]; omega)]
  by_cases k12 : κ < 12
  · rw [if_neg (show ¬ (12 : Int32) ≤ nI κ by rw [li12, nI_leI (by omega) (by omega)]; omega)]
    obtain ⟨i, hi, e4⟩ := low_u (c >>> ((13 : Int32) &&& 31)) li2 (by omega) (by omega)
    obtain ⟨k, hk4, e5⟩ := low_u (c >>> ((11 : Int32) &&& 31)) li4 (by omega) (by omega)
    rw [e4, Option.bind_some, e5, Option.bind_some]
    exact kDash h hi hb hk4 hg
  rw [if_pos (show (12 : Int32) ≤ nI κ by rw [li12, nI_leI (by omega) (by omega)]; omega)]
  by_cases kk : κ = 12
  · rw [if_pos (show nI κ = 12 by rw [kk]; rfl)]
    obtain ⟨i, hi, e4⟩ := low_u (c >>> ((11 : Int32) &&& 31)) li2 (by omega) (by omega)
    rw [e4, Option.bind_some]
    by_cases h0 : nI i = 0
    · rw [if_pos h0]
      exact kErase h hl hb hg
    · rw [if_neg h0]
      exact k575 h hl hb hκ c hg
  · rw [if_neg (show ¬ nI κ = 12 by rw [li12, eqN (by omega) (by omega)]; exact kk)]
    exact k575 h hl hb hκ c hg
end KI
