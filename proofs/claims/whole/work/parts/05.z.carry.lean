/-! a text is carried out -/
theorem vl_n {kd : Nat} {c : Int32} (hk : 1 ≤ kd ∧ kd ≤ 5) (h : chk kd c = true) : ∃ a : Nat, a ≤ (if kd = 4 then 15 else if kd = 5 then 2 else kd) ∧ vl kd c = nI a := by
  unfold chk at h
  unfold vl
  by_cases h4 : kd = 4
  · rw [if_pos h4] at h ⊢
    rw [decide_eq_true_eq] at h
    rw [if_pos h4]
    obtain ⟨j, hj, e⟩ := nI_of h.1
    refine ⟨j, ?_, e⟩
    have h2 := h.2
    rw [e, li15, nI_ltI (by omega) hj] at h2
    omega
  · rw [if_neg h4] at h ⊢
    rw [if_neg h4]
    by_cases h5 : kd = 5
    · rw [if_pos h5, if_pos h5]
      by_cases c1 : c = 117
      · rw [if_pos c1]; exact ⟨0, by omega, rfl⟩
      · rw [if_neg c1]
        by_cases c2 : c = 100
        · rw [if_pos c2]; exact ⟨1, by omega, rfl⟩
        · rw [if_neg c2]; exact ⟨2, by omega, rfl⟩
    · rw [if_neg h5] at h ⊢
      rw [decide_eq_true_eq] at h
      rw [if_neg h5]
      obtain ⟨j, hj, e⟩ := nI_of h.1
      refine ⟨j, ?_, e⟩
      have h2 := h.2
      rw [e, nI_ltI (by omega) hj] at h2
      omega
section CO
variable {o : TX2s} {n : Nat}
theorem codeAt_some (hn : n ≤ 70) (h2 : o.2 = nI n) (p : Int32) : ∃ c, f_X2_codeAt o p = some c := by
  by_cases h0 : n = 0
  · unfold f_X2_codeAt
    have e : f_X6_in p 0 (o.2 - 1) = some 0 := by
      rw [h2, h0, show nI 0 - 1 = (-1 : Int32) by decide]
      unfold f_X6_in
      by_cases h1 : p < 0
      · rw [if_pos h1]
      · rw [if_neg h1, if_pos (by
          obtain ⟨j, hj, rfl⟩ := nI_of h1
          have := nI_leI (show 0 < 2 ^ 31 by omega) hj
          exact Int32.lt_of_lt_of_le (show (-1 : Int32) < nI 0 by decide) (by rw [this]; omega))]
    rw [isW, e]
    exact ⟨0, rfl⟩
  · rcases in_cases p 0 (nI (n - 1)) li0 rfl (by omega) (by omega) with ⟨c, _, hc, rfl, e⟩ | e
    · exact ⟨_, codeAt_u hn h2 (by omega)⟩
    · refine ⟨0, ?_⟩
      unfold f_X2_codeAt
      rw [isW, h2, li1, pk_sub (by omega), e]
      rfl
theorem arg_in (hn : n ≤ 70) (h2 : o.2 = nI n) {s k v : Nat} (hs : s + k < n) (h6 : fOf (o.1 s) ≠ 6) (hk1 : 1 ≤ k) (hk : k < fLen (fOf (o.1 s))) (hv : v ≤ 126) (he : o.1 (s + k) = nI v) (hc : chk (kdOf (fOf (o.1 s)) k) (o.1 (s + k)) = true) : f_X2_argument o (nI s) (nI k) = some (vl (kdOf (fOf (o.1 s)) k) (o.1 (s + k))) := by
  have h16 := fOf_le h6
  unfold f_X2_argument
  rw [codeAt_u hn h2 (by omega), Option.bind_some, formOf_u, Option.bind_some, nI_add, codeAt_u hn h2 hs, Option.bind_some, he, valueAt_u h16.1 h16.2 hk1 hk hv, ← he, if_pos hc]
  rfl
theorem arg_out (hn : n ≤ 70) (h2 : o.2 = nI n) {s k : Nat} (hs : s < n) (h6 : fOf (o.1 s) ≠ 6) (hk : fLen (fOf (o.1 s)) ≤ k) (hk3 : k ≤ 3) : ∃ v, f_X2_argument o (nI s) (nI k) = some v := by
  have h16 := fOf_le h6
  have hl := fLen_le (show fOf (o.1 s) < 6 by omega)
  obtain ⟨c, hc⟩ := codeAt_some hn h2 (nI s + nI k)
  refine ⟨-1, ?_⟩
  unfold f_X2_argument
  rw [codeAt_u hn h2 hs, Option.bind_some, formOf_u, Option.bind_some, hc, Option.bind_some]
  unfold f_X2_valueAt
  rw [len_q (by omega), Option.bind_some, isW, li1, pk_sub (by omega)]
  have e : f_X6_in (nI k) 0 (nI (fLen (fOf (o.1 s)) - 1)) = some 0 := by
    unfold f_X6_in
    rw [if_neg (nI_pos (by omega)), if_pos (by rw [nI_ltI (by omega) (by omega)]; omega)]
  rw [e]
  rfl
end CO
