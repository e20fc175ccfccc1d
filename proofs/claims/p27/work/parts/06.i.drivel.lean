/-! the law's drive, whole -/
section DW
variable {u : Nat → Nat} {a p w q dd e t : Nat → Int32} {d l : Nat}
theorem RLe.sum {le : Nat → Int32} {L : Nat → Nat} (h : RLe le L) (hL : ∀ j, L j ≤ 99) : sumN (fun j => (le j).toNatClampNeg) 48 = sumN L 48 :=
  sumN_congr (fun j hj => by
    have := hL j
    rw [h j hj, nI_clamp (by omega)])
/-- the least of three -/
theorem best3 {c L : Nat → Nat} (h : ∀ k, k < 3 → (c k = 1000 ∧ L k = 99) ∨ (c k ≤ 64 ∧ L k = c k)) : (if (if (if L 1 ≤ L 0 then L 1 else L 0) ≤ L 2 then (if L 1 ≤ L 0 then L 1 else L 0) else L 2) = 99 then (-6 : Int32) else nI (if (if L 1 ≤ L 0 then L 1 else L 0) ≤ L 2 then (if L 1 ≤ L 0 then L 1 else L 0) else L 2)) = cst (mn c 3) := by
  have h0 := h 0 (by omega)
  have h1 := h 1 (by omega)
  have h2 := h 2 (by omega)
  have e3 : mn c 3 = if c 2 < (if c 1 < (if c 0 < 1000 then c 0 else 1000) then c 1 else (if c 0 < 1000 then c 0 else 1000)) then c 2 else (if c 1 < (if c 0 < 1000 then c 0 else 1000) then c 1 else (if c 0 < 1000 then c 0 else 1000)) := rfl
  rw [e3]
  generalize hA : (if L 1 ≤ L 0 then L 1 else L 0) = A
  have kA : (A = L 0 ∨ A = L 1) ∧ A ≤ L 0 ∧ A ≤ L 1 := by rw [← hA]; split <;> omega
  generalize hB : (if A ≤ L 2 then A else L 2) = B
  have kB : (B = A ∨ B = L 2) ∧ B ≤ A ∧ B ≤ L 2 := by rw [← hB]; split <;> omega
  generalize hC : (if c 0 < 1000 then c 0 else 1000) = C
  have kC : C = c 0 := by rw [← hC]; split <;> omega
  generalize hD : (if c 1 < C then c 1 else C) = D
  have kD : (D = c 1 ∨ D = C) ∧ D ≤ c 1 ∧ D ≤ C := by rw [← hD]; split <;> omega
  generalize hE : (if c 2 < D then c 2 else D) = F
  have kF : (F = c 2 ∨ F = D) ∧ F ≤ c 2 ∧ F ≤ D := by rw [← hE]; split <;> omega
  have key : (B = 99 ∧ F = 1000) ∨ (B = F ∧ F ≤ 64) := by omega
  unfold cst
  rcases key with ⟨k1, k2⟩ | ⟨k1, k2⟩
  · rw [if_pos k1, if_pos k2]
  · rw [if_neg (by omega), if_neg (by omega), k1]
theorem mlD_lt {i : Nat} (hi : i < 16) : mlD d i < 16 := by unfold mlD; split <;> omega
theorem mlD_mlD {i : Nat} (hi : i < 16) : mlD d (mlD d i) = i := by
  unfold mlD
  by_cases h : d = 0
  · rw [if_pos h, if_pos h]
  · rw [if_neg h, if_neg h]; omega
theorem driveL (h : AR u a p w q dd e t) (hu : UOk u) (hd : d < 2) (hl : l < 3) : f_L_drive a dd (nI d) (nI l) = some (cst (mn (dp u d l 16) 3)) := by
  have hF16 := @mlD_lt d 0 (by omega)
  have hE16 := @mlD_lt d 15 (by omega)
  have last : (if nI d = 0 then f_L_drive_j16 a dd (nI d) (nI l) 15 else f_L_drive_j16 a dd (nI d) (nI l) 0) = f_L_drive_j16 a dd (nI d) (nI l) (nI (mlD d 15)) := by
    by_cases h0 : d = 0
    · rw [if_pos (show nI d = 0 by rw [eq0 (by omega)]; exact h0)]
      exact congrArg (f_L_drive_j16 a dd (nI d) (nI l)) (by rw [show mlD d 15 = 15 from if_pos h0, li15])
    · rw [if_neg (show ¬ nI d = 0 by rw [eq0 (by omega)]; exact h0)]
      exact congrArg (f_L_drive_j16 a dd (nI d) (nI l)) (by rw [show mlD d 15 = 0 from if_neg h0, li0])
  have first : (15 : Int32) - nI (mlD d 15) = nI (mlD d 0) := by
    have hd' : d = 0 ∨ d = 1 := by omega
    rcases hd' with rfl | rfl <;> rfl
  have ixf : 16 * nI l + 15 - nI (mlD d 15) = nI (16 * l + mlD d 0) := by
    rw [Int32.sub_eq_add_neg, Int32.add_assoc, ← Int32.sub_eq_add_neg, first, ix16']
  unfold f_L_drive
  rw [last]
  unfold f_L_drive_j16
  refine lpN_rule (f_L_drive_l21 a dd (nI d) (nI l) (nI (mlD d 15))) (fun _ res => res = some (cst (mn (dp u d l 16) 3))) (fun v => ∃ i, i ≤ 48 ∧ v.1 = nI i ∧ ∀ j, j < i → v.2 j = nI 99) (fun v => 48 - v.1.toNatClampNeg) ?_ 3000 (0, fun _ => 0) ⟨0, by omega, rfl, fun j hj => by omega⟩ (by show 48 - (0 : Int32).toNatClampNeg < 3000; omega)
  rintro k ⟨v1, v2⟩ ⟨i, hi, e1, e2⟩ hk
  simp only at e1 e2
  subst e1
  unfold f_L_drive_l21
  simp only [li48, leN (show 48 < 2 ^ 31 by omega) (show i < 2 ^ 31 by omega)]
  by_cases h48 : 48 ≤ i
  · rw [if_pos h48]
    clear hk
    have hi48 : i = 48 := by omega
    subst hi48
    have start : ∀ v : Nat, v ≤ 99 → (v = if frB u l (mlD d 0) d = true then 0 else 99) → f_L_drive_j73 a dd (nI d) (nI l) (nI (mlD d 15)) (nI 48, v2) (nI v) = some (cst (mn (dp u d l 16) 3)) := by
      intro v hv99 hv
      unfold f_L_drive_j73
      simp only [ixf, nI_clamp (show 16 * l + mlD d 0 < 2 ^ 31 by omega), g_in2 (show 16 * l + mlD d 0 < 48 by omega) (show 48 < 2 ^ 31 by omega), ↓reduceIte]
      have hR0 : RLe (upd v2 (16 * l + mlD d 0) (nI v)) (fun j => if j = 16 * l + mlD d 0 then v else 99) := RLe.upd (L := fun _ => 99) (fun j hj => e2 j hj) _ _
      refine lpN_rule (f_L_drive_l77 a dd (nI d) (nI (mlD d 15))) (fun _ res => res = some (cst (mn (dp u d l 16) 3))) (fun V => ∃ L, RLe V.2 L ∧ (∀ j, L j ≤ 99) ∧ (∀ j, j < 48 → Bv u d l j ≤ L j) ∧ L (16 * l + mlD d 0) ≤ (if frB u l (mlD d 0) d = true then 0 else 99) ∧ (V.1 = 1 ∨ (V.1 = 0 ∧ ∀ s t w, s < 48 → edge u d s t w → L s < 99 → L t ≤ L s + w))) (fun V => if V.1 = 0 then 0 else 1 + sumN (fun j => (V.2 j).toNatClampNeg) 48) ?_ 6000 (1, upd v2 (16 * l + mlD d 0) (nI v)) ⟨_, hR0, fun j => ?_, fun j hj => ?_, ?_, Or.inl rfl⟩ ?_
      · clear e2 hR0 hv hv99
        rintro k77 ⟨mo, le⟩ ⟨L, hR, hL, hB, hS, hM⟩ hk
        simp only at hR hM
        unfold f_L_drive_l77
        rcases hM with hM | ⟨hM, hX⟩
        · subst hM
          rw [if_neg (show ¬ (1 : Int32) = 0 by decide)]
          refine lpN_rule (f_L_drive_l88 a dd (nI d) k77) (fun _ res => res = some (cst (mn (dp u d l 16) 3))) (fun V => ∃ n L', n ≤ 48 ∧ V.2.1 = nI n ∧ RLe V.2.2 L' ∧ St u d l L (E0 u d n) V.1 L') (fun V => 48 - V.2.1.toNatClampNeg) ?_ 3000 (0, 0, le) ⟨0, L, by omega, rfl, hR, fun j => Nat.le_refl _, hB, Or.inl ⟨rfl, rfl, fun s t w hE => absurd hE.1 (Nat.not_lt_zero _)⟩⟩ (by show 48 - (0 : Int32).toNatClampNeg < 3000; omega)
          rintro k88 ⟨m2, n2, l2⟩ ⟨n, L', hn, g1, g2, g3⟩ hk2
          simp only at g1 g2 g3
          subst g1
          by_cases hn48 : n = 48
          · subst hn48
            unfold f_L_drive_l88
            rw [if_pos (show (48 : Int32) ≤ nI 48 by decide)]
            have hL' : ∀ j, L' j ≤ 99 := fun j => Nat.le_trans (g3.1 j) (hL j)
            refine hk (m2, l2) ⟨L', g2, hL', g3.2.1, Nat.le_trans (g3.1 _) hS, ?_⟩ ?_
            · rcases g3.2.2 with ⟨z1, z2, z3⟩ | ⟨z1, _⟩
              · subst z2
                exact Or.inr ⟨z1, fun s t w hs he => z3 s t w ⟨hs, he⟩⟩
              · exact Or.inl z1
            · show (if m2 = 0 then 0 else 1 + sumN (fun j => (l2 j).toNatClampNeg) 48) < if (1 : Int32) = 0 then 0 else 1 + sumN (fun j => (le j).toNatClampNeg) 48
              rw [if_neg (show ¬ (1 : Int32) = 0 by decide), hR.sum hL, g2.sum hL']
              rcases g3.2.2 with ⟨z1, _, _⟩ | ⟨z1, z2⟩
              · rw [if_pos z1]; omega
              · rw [z1, if_neg (show ¬ (1 : Int32) = 0 by decide)]; omega
          · obtain ⟨m3, l3, L3, c1, c2, c3⟩ := d88 h hu hd (show n < 48 by omega) g2 g3 hL k77 k88
            rw [c1]
            refine hk2 _ ⟨n + 1, L3, by omega, rfl, c2, c3⟩ ?_
            show 48 - (nI (n + 1)).toNatClampNeg < 48 - (nI n).toNatClampNeg
            rw [nI_clamp (by omega), nI_clamp (by omega)]; omega
        · subst hM
          rw [if_pos rfl]
          have hfix := fix_u hl hd hL hS hX 15 (by omega)
          have hdp := @dp_bnd u d l 16 (by omega)
          have key : ∀ k, k < 3 → (dp u d l 16 k = 1000 ∧ L (16 * k + mlD d 15) = 99) ∨ (dp u d l 16 k ≤ 64 ∧ L (16 * k + mlD d 15) = dp u d l 16 k) := by
            intro k hk3
            have b1 : L (16 * k + mlD d 15) ≤ dp u d l 16 k := hfix k hk3
            have b2 := hL (16 * k + mlD d 15)
            have b3 := hB (16 * k + mlD d 15) (by omega)
            unfold Bv at b3
            rw [show (16 * k + mlD d 15) % 16 = mlD d 15 by omega, show (16 * k + mlD d 15) / 16 = k by omega, mlD_mlD (by omega)] at b3
            replace b3 : min (dp u d l 16 k) 99 ≤ L (16 * k + mlD d 15) := b3
            rcases hdp k hk3 with z | z
            · rw [z] at b1 b3 ⊢
              exact Or.inl ⟨rfl, by omega⟩
            · exact Or.inr ⟨z, by omega⟩
          have r0 := hR (mlD d 15) (by omega)
          have r1 := hR (16 + mlD d 15) (by omega)
          have r2 := hR (32 + mlD d 15) (by omega)
          have l0 := hL (mlD d 15)
          have l1 := hL (16 + mlD d 15)
          have l2 := hL (32 + mlD d 15)
          have hb := best3 (c := dp u d l 16) (L := fun k => L (16 * k + mlD d 15)) key
          simp only [show 16 * 1 + mlD d 15 = 16 + mlD d 15 by omega, show 16 * 0 + mlD d 15 = mlD d 15 by omega, show 16 * 2 + mlD d 15 = 32 + mlD d 15 by omega] at hb
          rw [← hb]
          unfold f_L_drive_j356 f_L_drive_j384
          simp only [li16, li32, nI_add, nI_clamp (show mlD d 15 < 2 ^ 31 by omega), nI_clamp (show 16 + mlD d 15 < 2 ^ 31 by omega), nI_clamp (show 32 + mlD d 15 < 2 ^ 31 by omega), g_in2 (show mlD d 15 < 48 by omega) (show 48 < 2 ^ 31 by omega), g_in2 (show 16 + mlD d 15 < 48 by omega) (show 48 < 2 ^ 31 by omega), g_in2 (show 32 + mlD d 15 < 48 by omega) (show 48 < 2 ^ 31 by omega), ↓reduceIte, r0, r1, r2, li99, leN (show L (16 + mlD d 15) < 2 ^ 31 by omega) (show L (mlD d 15) < 2 ^ 31 by omega), leN (show L (16 + mlD d 15) < 2 ^ 31 by omega) (show L (32 + mlD d 15) < 2 ^ 31 by omega), leN (show L (mlD d 15) < 2 ^ 31 by omega) (show L (32 + mlD d 15) < 2 ^ 31 by omega), eqN (show L (16 + mlD d 15) < 2 ^ 31 by omega) (show 99 < 2 ^ 31 by omega), eqN (show L (mlD d 15) < 2 ^ 31 by omega) (show 99 < 2 ^ 31 by omega), eqN (show L (32 + mlD d 15) < 2 ^ 31 by omega) (show 99 < 2 ^ 31 by omega)]
          by_cases c1 : L (16 + mlD d 15) ≤ L (mlD d 15)
          · simp only [if_pos c1]
            by_cases c2 : L (16 + mlD d 15) ≤ L (32 + mlD d 15)
            · simp only [if_pos c2]
              split <;> rfl
            · simp only [if_neg c2]
              split <;> rfl
          · simp only [if_neg c1]
            by_cases c2 : L (mlD d 15) ≤ L (32 + mlD d 15)
            · simp only [if_pos c2]
              split <;> rfl
            · simp only [if_neg c2]
              split <;> rfl
      · show (if j = 16 * l + mlD d 0 then v else 99) ≤ 99
        split <;> omega
      · show Bv u d l j ≤ if j = 16 * l + mlD d 0 then v else 99
        by_cases ej : j = 16 * l + mlD d 0
        · rw [if_pos ej, ej, hv]
          unfold Bv
          by_cases hf : frB u l (mlD d 0) d = true
          · rw [if_pos hf, show (16 * l + mlD d 0) % 16 = mlD d 0 by omega, show (16 * l + mlD d 0) / 16 = l by omega, mlD_mlD (by omega)]
            have g : dp u d l (0 + 1) l ≤ 0 := by
              show fo u (mlD d 0) d (dp u d l 0) l ≤ 0
              refine Nat.le_trans (fo_le hl) ?_
              unfold ent
              rw [if_pos hf]
              show (if l = l then 0 else 1000) ≤ 0
              rw [if_pos rfl]
              exact Nat.le_refl _
            omega
          · rw [if_neg hf]; omega
        · rw [if_neg ej]
          unfold Bv
          omega
      · show (if 16 * l + mlD d 0 = 16 * l + mlD d 0 then v else 99) ≤ _
        rw [if_pos rfl, ← hv]
        exact Nat.le_refl _
      · show (if (1 : Int32) = 0 then 0 else 1 + sumN (fun j => (upd v2 (16 * l + mlD d 0) (nI v) j).toNatClampNeg) 48) < 6000
        have hL0 : ∀ j, (fun j => if j = 16 * l + mlD d 0 then v else 99) j ≤ 99 := by
          intro j
          show (if j = 16 * l + mlD d 0 then v else 99) ≤ 99
          split <;> omega
        rw [if_neg (show ¬ (1 : Int32) = 0 by decide), hR0.sum hL0]
        have g := sumN_le (f := fun j => if j = 16 * l + mlD d 0 then v else 99) (n := 48) (b := 99) (fun i _ => hL0 i)
        omega
    simp only [first, free_u h hu hl hF16 hd, Option.bind_some]
    by_cases hf : frB u l (mlD d 0) d = true
    · simp only [if_pos hf, show ¬ (1 : Int32) = 0 by decide, ↓reduceIte]
      exact start 0 (by omega) (by rw [if_pos hf])
    · simp only [if_neg hf, ↓reduceIte]
      exact start 99 (by omega) (by rw [if_neg hf])
  · rw [if_neg h48]
    simp only [nI_clamp (show i < 2 ^ 31 by omega), g_in2 (show i < 48 by omega) (show 48 < 2 ^ 31 by omega), ↓reduceIte, nI_1]
    refine hk _ ⟨i + 1, by omega, rfl, fun j hj => ?_⟩ ?_
    · show upd v2 i 99 j = nI 99
      by_cases ej : j = i
      · rw [ej, upd_eq]; rfl
      · rw [upd_ne ej]; exact e2 j (by omega)
    · show 48 - (nI (i + 1)).toNatClampNeg < 48 - (nI i).toNatClampNeg
      rw [nI_clamp (by omega), nI_clamp (by omega)]; omega
end DW
