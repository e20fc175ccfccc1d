/-! a night, class and law side by side -/
section NJ
variable {u : Nat → Nat} {r : TX3s} {a p w q d e t : Nat → Int32}
/-- what a night leaves behind in both -/
def NightR (r : TX3s) (a w d t : Nat → Int32) (R1 : Option (Int32 × TX3s)) (R2 : Option TM) : Prop := ∃ A u' r' p' q' e' t', R1 = some (nI A, r') ∧ R2 = some (nI A, p', q', e', t') ∧ RdU u' r' ∧ UOk u' ∧ AR u' a p' w q' d e' t' ∧ r'.2.2.2.2.2.2.1 = r.2.2.2.2.2.2.1 ∧ r'.2.2.2.2.2.2.2.1 = r.2.2.2.2.2.2.2.1 + 1 ∧ r'.2.2.2.2.2.2.2.2.1 = r.2.2.2.2.2.2.2.2.1 + nI A ∧ r'.2.2.2.2.2.2.2.2.2 = r.2.2.2.2.2.2.2.2.2 ∧ t' 6 = t 6 ∧ t' 7 = t 7 + 1 ∧ t' 8 = t 8 + nI A ∧ t' 9 = t 9
theorem nightJ (hr : RdU u r) (hu : UOk u) (h : AR u a p w q d e t) {x m : Nat} (hx : x < 16) (hm : m ≤ 16) (p2 v : Int32) (habs : (if 0 ≤ (p2 - nI x) then (p2 - nI x) else 0 - (p2 - nI x)) + 1 = nI m) (hM : ∀ i, i < m → ∃ b, b < 16 ∧ nI x + nI i * v = nI b) (hgo : ∀ i, i < m → ∀ (k : TN → Option TM) (V : TN), V.2.1 = nI x + nI i * v → f_L_night_l7 (nI x) p2 k V = f_L_night_j31 (nI x) p2 k V ()) (hst : ∀ (k : TN → Option TM) (V : TN), V.2.1 = nI x + nI m * v → f_L_night_l7 (nI x) p2 k V = f_L_night_j222 V ()) (hnx : ∀ b : Int32, (if p2 < nI x then b + (-1) else b + 1) = b + v) : NightR r a w d t (f_X3_workNight_j10 r (nI x) p2 v) (f_L_night p q e t (nI x) p2) := by
  have hc := hu.c5
  have hs1 := hu.s1
  have hl : (if u 1 < u 5 then u 1 else u 5) = lmN u := rfl
  have hlm : lmN u ≤ u 5 ∧ lmN u ≤ 40 := by
    unfold lmN
    split <;> omega
  unfold f_X3_workNight_j10 f_L_night
  rw [crew_u hr hu, Option.bind_some]
  refine lpN_rel (f_X3_workNight_l33 (nI x) p2 v (nI (lmN u))) (f_L_night_l7 (nI x) p2) (fun V V' => ∃ (i : Nat) (s : (Nat → Nat) × Nat), i ≤ m ∧ s.2 ≤ lmN u ∧ V.1 = nI s.2 ∧ V'.1 = nI s.2 ∧ V.2.1 = nI i ∧ V'.2.1 = nI x + nI i * v ∧ RdU s.1 V.2.2 ∧ V.2.2.2.2.2 = r.2.2.2 ∧ NA u (u 5) s t a V'.2.2.1 w V'.2.2.2.1 d V'.2.2.2.2.1 V'.2.2.2.2.2) (fun V _ => 16 - V.2.1.toNatClampNeg) (NightR r a w d t) ?_ 3000 (0, 0, r) (0, nI x, p, q, e, t) ⟨0, (u, 0), by omega, Nat.zero_le _, rfl, rfl, rfl, ?_, hr, rfl, ⟨h.ext (fun k hk => ?_), hu, Nat.zero_le _, rfl, fun _ _ => rfl⟩⟩ (by show 16 - (0 : Int32).toNatClampNeg < 3000; omega)
  · rintro k1 k2 ⟨V1, V2, r1⟩ ⟨V1', V2', p1, q1, e1, t1⟩ ⟨i, s, hi, hA, g1, g1', g2, g2', hR, g3, hN⟩ hk
    simp only at g1 g1' g2 g2' hR g3 hN
    subst g1 g1' g2 g2'
    by_cases him : i = m
    · subst him
      rw [hst k2 _ rfl]
      unfold f_X3_workNight_l33 f_L_night_j222
      rw [if_pos (by rw [habs]; exact Int32.le_refl _)]
      simp only [tc0, tg0, tc1, tg1, tc2, tg2, tc3, tg3, tc4, tg4, tc5, tg5, tc6, tg6, tc7, tg7, tc8, tg8, tc9, tg9, ↓reduceIte]
      have f5 : r1.2.2.2.2.2.1 = r.2.2.2.2.2.1 := congrArg (fun z => z.2.2.1) g3
      have f6 : r1.2.2.2.2.2.2.1 = r.2.2.2.2.2.2.1 := congrArg (fun z => z.2.2.2.1) g3
      have f7 : r1.2.2.2.2.2.2.2.1 = r.2.2.2.2.2.2.2.1 := congrArg (fun z => z.2.2.2.2.1) g3
      have f8 : r1.2.2.2.2.2.2.2.2.1 = r.2.2.2.2.2.2.2.2.1 := congrArg (fun z => z.2.2.2.2.2.1) g3
      have f9 : r1.2.2.2.2.2.2.2.2.2 = r.2.2.2.2.2.2.2.2.2 := congrArg (fun z => z.2.2.2.2.2.2) g3
      refine ⟨s.2, s5 s.1 (u 5 - s.2), _, _, _, _, _, rfl, rfl, s5_rd hR ⟨rfl, rfl, rfl, rfl, rfl⟩ ?_, s5_ok hN.2.1 (by omega), ⟨hN.1.1, hN.1.2.1, fun j hj => ?_⟩, f6, ?_, ?_, f9, ?_, ?_, ?_, ?_⟩
      · show r1.2.2.2.2.2.1 - nI s.2 = nI (u 5 - s.2)
        rw [f5, hr.2.2.2.2.2, pk_sub (by omega)]
      · rw [upd_ne (by omega), upd_ne (by omega)]; exact hN.1.2.2 j hj
      · show r1.2.2.2.2.2.2.2.1 + 1 = _
        rw [f7]
      · show r1.2.2.2.2.2.2.2.2.1 + nI s.2 = _
        rw [f8]
      · rw [upd_ne (by omega), upd_ne (by omega)]; exact hN.2.2.2.2 6 (by omega)
      · rw [upd_ne (by omega), upd_eq, hN.2.2.2.2 7 (by omega)]
      · rw [upd_eq, upd_ne (by omega), hN.2.2.2.2 8 (by omega)]
      · rw [upd_ne (by omega), upd_ne (by omega)]; exact hN.2.2.2.2 9 (by omega)
    · obtain ⟨b, hb, hMb⟩ := hM i (by omega)
      rw [hgo i (by omega) k2 _ rfl, hMb]
      obtain ⟨r', c1, c2, c3, c4⟩ := mile5 (r := r1) (lim := lmN u) (s0 := s) hb (by omega) hR hN.2.1 hA
      obtain ⟨p', q', e', t', w1, w2⟩ := nightM hN hb hc hs1.2 (nI x) p2 k2
      rw [hl] at w1 w2
      rw [w1, hnx]
      have m8 := nf_mono (lim := lmN u) (b := b) (s := s) 0 8
      have m0 : (nf (lmN u) b s 0).2 = s.2 := rfl
      rw [Nat.zero_add] at m8
      have e33 : f_X3_workNight_l33 (nI x) p2 v (nI (lmN u)) k1 (nI s.2, nI i, r1) = k1 (nI (nf (lmN u) b s 8).2, nI (i + 1), r') := by
        unfold f_X3_workNight_l33
        rw [if_neg (by rw [habs]; show ¬ nI m ≤ nI i; rw [nI_leI (by omega) (by omega)]; omega)]
        simp only [hMb, c1, Option.bind_some, nI_add, nI_1]
        rw [show s.2 + ((nf (lmN u) b s 8).2 - s.2) = (nf (lmN u) b s 8).2 by omega]
      rw [e33]
      refine hk _ _ ⟨i + 1, nf (lmN u) b s 8, by omega, nf_le hA 8, rfl, rfl, rfl, ?_, c2, c4.trans g3, w2⟩ ?_
      · show nI b + v = nI x + nI (i + 1) * v
        rw [← hMb, ← nI_1, Int32.add_mul, Int32.one_mul, Int32.add_assoc]
      · show 16 - (nI (i + 1)).toNatClampNeg < 16 - (nI i).toNatClampNeg
        rw [nI_clamp (by omega), nI_clamp (by omega)]; omega
  · show nI x = nI x + nI 0 * v
    rw [show nI 0 = (0 : Int32) from rfl, Int32.zero_mul, Int32.add_zero]
  · show s5 u (u 5 - 0) k = u k
    by_cases k5 : k = 5
    · rw [k5, s5_5, Nat.sub_zero]
    · exact s5_n k5
/-- a night, in both directions -/
theorem nightB (hr : RdU u r) (hu : UOk u) (h : AR u a p w q d e t) {x y : Nat} (hx : x < 16) (hy : y < 16) : NightR r a w d t (f_X3_workNight r (nI x) (nI y)) (f_L_night p q e t (nI x) (nI y)) := by
  unfold f_X3_workNight
  have mneg : ∀ i, nI x + nI i * (-1) = nI x - nI i := fun i => by rw [Int32.mul_neg, Int32.mul_one, ← Int32.sub_eq_add_neg]
  have hlt : (nI y < nI x) = (y < x) := ltN (show y < 2 ^ 31 by omega) (show x < 2 ^ 31 by omega)
  by_cases hyx : y < x
  · rw [if_pos (by rw [hlt]; exact hyx)]
    refine nightJ hr hu h hx (m := x - y + 1) (by omega) (nI y) (-1) ?_ ?_ ?_ ?_ ?_
    · have e1 : 0 - (nI y - nI x) = nI (x - y) := by rw [Int32.zero_sub, Int32.neg_sub, pk_sub (by omega)]
      have e2 : ¬ (0 : Int32) ≤ nI y - nI x := fun z => Int32.not_le.mpr (pk_sneg (show x < 2 ^ 30 by omega) hyx) z
      rw [if_neg e2, e1, nI_1]
    · intro i hi
      exact ⟨x - i, by omega, by rw [mneg, pk_sub (by omega)]⟩
    · intro i hi k V hV
      unfold f_L_night_l7
      rw [if_pos (by rw [hlt]; exact hyx), hV, mneg, pk_sub (by omega), if_neg (by rw [nI_ltI (by omega) (by omega)]; omega)]
    · intro k V hV
      unfold f_L_night_l7
      rw [if_pos (by rw [hlt]; exact hyx), if_pos]
      rw [hV, mneg]
      by_cases h0 : y = 0
      · subst h0
        have : nI x - nI (x - 0 + 1) < 0 := pk_sneg (by omega) (by omega)
        exact this
      · rw [pk_sub (by omega), nI_ltI (by omega) (by omega)]; omega
    · intro b
      rw [if_pos (by rw [hlt]; exact hyx)]
  · rw [if_neg (by rw [hlt]; exact hyx)]
    refine nightJ hr hu h hx (m := y - x + 1) (by omega) (nI y) 1 ?_ ?_ ?_ ?_ ?_
    · rw [pk_sub (by omega), if_pos (by rw [li0, nI_leI (by omega) (by omega)]; omega), nI_1]
    · intro i hi
      exact ⟨x + i, by omega, by rw [Int32.mul_one, nI_add]⟩
    · intro i hi k V hV
      unfold f_L_night_l7
      rw [if_neg (by rw [hlt]; exact hyx), hV, Int32.mul_one, nI_add, if_neg (by rw [nI_ltI (by omega) (by omega)]; omega)]
    · intro k V hV
      unfold f_L_night_l7
      rw [if_neg (by rw [hlt]; exact hyx), hV, Int32.mul_one, nI_add, if_pos (by rw [nI_ltI (by omega) (by omega)]; omega)]
    · intro b
      rw [if_neg (by rw [hlt]; exact hyx)]
end NJ
