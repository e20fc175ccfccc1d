/-- the words on nest mates are among the tables' words -/
theorem gNest_in : ∀ w ∈ gNest, w ∈ lw_tbl := List.forall_mem_cons.mpr ⟨List.mem_of_getElem? (i := 92) (by decide +kernel), List.forall_mem_cons.mpr ⟨List.mem_of_getElem? (i := 94) (by decide +kernel), List.forall_mem_cons.mpr ⟨List.mem_of_getElem? (i := 96) (by decide +kernel), List.forall_mem_cons.mpr ⟨List.mem_of_getElem? (i := 100) (by decide +kernel), List.forall_mem_cons.mpr ⟨List.mem_of_getElem? (i := 104) (by decide +kernel), List.forall_mem_cons.mpr ⟨List.mem_of_getElem? (i := 106) (by decide +kernel), List.forall_mem_cons.mpr ⟨List.mem_of_getElem? (i := 108) (by decide +kernel), List.forall_mem_cons.mpr ⟨List.mem_of_getElem? (i := 110) (by decide +kernel), List.forall_mem_cons.mpr ⟨List.mem_of_getElem? (i := 98) (by decide +kernel), List.forall_mem_cons.mpr ⟨List.mem_of_getElem? (i := 160) (by decide +kernel), List.forall_mem_cons.mpr ⟨List.mem_of_getElem? (i := 144) (by decide +kernel), List.forall_mem_cons.mpr ⟨List.mem_of_getElem? (i := 102) (by decide +kernel), List.forall_mem_cons.mpr ⟨List.mem_of_getElem? (i := 525) (by decide +kernel), List.forall_mem_cons.mpr ⟨List.mem_of_getElem? (i := 408) (by decide +kernel), List.forall_mem_cons.mpr ⟨List.mem_of_getElem? (i := 221) (by decide +kernel), List.forall_mem_cons.mpr ⟨List.mem_of_getElem? (i := 275) (by decide +kernel), fun _ h => absurd h List.not_mem_nil⟩⟩⟩⟩⟩⟩⟩⟩⟩⟩⟩⟩⟩⟩⟩⟩
set_option maxRecDepth 100000 in
set_option maxHeartbeats 4000000 in
theorem env_start {s : State} {b : Nat} (hts : ∀ w ∈ lw_tbl, w.before #[Value.ref b] s = true) (hgv : (Jvm.Cond.and given_1 narrow_1).before #[Value.ref b] s = true) : ∃ g : GG, EvG g (fun q => s.heap.size ≤ q) s s.heap := by
  have hs := flat_of_before _ hgv
  have hl := fun w (h : w ∈ wsL_law) => hts w (wsL_law_in w h)
  have hA : ∀ a : Nat, a < s.heap.size → ¬ (fun q : Nat => s.heap.size ≤ q) a := fun a h1 h2 => absurd h1 (Nat.not_lt.mpr h2)
  obtain ⟨c0, i0, hK0⟩ := u_known (C := RX0) (T := TX0) (N := 1) (n := 1) hl inlX0 (hl (.instantiable RX0 1) (List.mem_of_getElem? (i := 27) rfl))
  obtain ⟨c1, i1, hK1⟩ := u_known (C := RX1) (T := TX1) (N := 3) (n := 3) hl inlX1 (hl (.instantiable RX1 3) (List.mem_of_getElem? (i := 19) rfl))
  obtain ⟨c2, i2, hK2⟩ := u_known (C := RX2) (T := TX2) (N := 2) (n := 2) hl inlX2 (hl (.instantiable RX2 2) (List.mem_of_getElem? (i := 23) rfl))
  obtain ⟨c3, i3, hK3⟩ := u_known (C := RX3) (T := TX3) (N := 10) (n := 10) hl inlX3 (hl (.instantiable RX3 10) (List.mem_of_getElem? (i := 13) rfl))
  obtain ⟨c4, i4, hK4⟩ := u_known (C := RX4) (T := TX4) (N := 3) (n := 3) hl inlX4 (hl (.instantiable RX4 3) (List.mem_of_getElem? (i := 35) rfl))
  obtain ⟨c5, i5, hK5⟩ := u_known (C := RX5) (T := TX5) (N := 6) (n := 6) hl inlX5 (hl (.instantiable RX5 6) (List.mem_of_getElem? (i := 1) rfl))
  obtain ⟨c6, i6, hK6⟩ := u_known (C := RX6) (T := TX6) (N := 12) (n := 12) hl inlX6 (hl (.instantiable RX6 12) (List.mem_of_getElem? (i := 4) rfl))
  obtain ⟨aI, kI, mI, nI_, eI, fI⟩ := Cond.arrayClass_spec (hl (.arrayClass .int) (List.mem_of_getElem? (i := 40) rfl))
  obtain ⟨aC, kC, mC, nC, eC, fC⟩ := Cond.arrayClass_spec (hl (.arrayClass .char) (List.mem_of_getElem? (i := 62) rfl))
  have hov := hts (.arrayOver (.object "RoadPaint$Road")) (List.mem_of_getElem? (i := 139) (by decide +kernel))
  obtain ⟨mR, aR, kR, nR0, nR1, eR, fR, nR⟩ := Cond.arrayOver_spec hov
  obtain ⟨adK, adV, hS, hT⟩ := vk_Sof (args := #[Value.ref b]) (s := s) (N := 8) (tm := fun i => Term.string "RoadPaint$Orders" (gSn.getD i 0)) (len := gLen) (byt := gByt) (A := fun q => s.heap.size ≤ q)
    (by
      intro i hi
      match i, hi with
      | 0, _ => decide
      | 1, _ => decide
      | 2, _ => decide
      | 3, _ => decide
      | 4, _ => decide
      | 5, _ => decide
      | 6, _ => decide
      | 7, _ => decide
      | (j + 8), hi => exact absurd hi (by omega))
    (by
      intro i hi
      match i, hi with
      | 0, _ => exact hs _ (by decide +kernel)
      | 1, _ => exact hs _ (by decide +kernel)
      | 2, _ => exact hs _ (by decide +kernel)
      | 3, _ => exact hs _ (by decide +kernel)
      | 4, _ => exact hs _ (by decide +kernel)
      | 5, _ => exact hs _ (by decide +kernel)
      | 6, _ => exact hs _ (by decide +kernel)
      | 7, _ => exact hs _ (by decide +kernel)
      | (j + 8), hi => exact absurd hi (by omega))
    (by
      intro i hi
      match i, hi with
      | 0, _ => exact hs _ (by decide +kernel)
      | 1, _ => exact hs _ (by decide +kernel)
      | 2, _ => exact hs _ (by decide +kernel)
      | 3, _ => exact hs _ (by decide +kernel)
      | 4, _ => exact hs _ (by decide +kernel)
      | 5, _ => exact hs _ (by decide +kernel)
      | 6, _ => exact hs _ (by decide +kernel)
      | 7, _ => exact hs _ (by decide +kernel)
      | (j + 8), hi => exact absurd hi (by omega))
    (by
      intro i hi
      match i, hi with
      | 0, _ => exact hs _ (by decide +kernel)
      | 1, _ => exact hs _ (by decide +kernel)
      | 2, _ => exact hs _ (by decide +kernel)
      | 3, _ => exact hs _ (by decide +kernel)
      | 4, _ => exact hs _ (by decide +kernel)
      | 5, _ => exact hs _ (by decide +kernel)
      | 6, _ => exact hs _ (by decide +kernel)
      | 7, _ => exact hs _ (by decide +kernel)
      | (j + 8), hi => exact absurd hi (by omega))
    (by
      intro i hi
      match i, hi with
      | 0, _ => exact hs _ (by decide +kernel)
      | 1, _ => exact hs _ (by decide +kernel)
      | 2, _ => exact hs _ (by decide +kernel)
      | 3, _ => exact hs _ (by decide +kernel)
      | 4, _ => exact hs _ (by decide +kernel)
      | 5, _ => exact hs _ (by decide +kernel)
      | 6, _ => exact hs _ (by decide +kernel)
      | 7, _ => exact hs _ (by decide +kernel)
      | (j + 8), hi => exact absurd hi (by omega))
    (by
      intro i hi
      match i, hi with
      | 0, _ => intro j hj; match j, hj with | 0, _ => exact hs _ (by decide +kernel) | (z + 1), hj => exact absurd hj (show ¬ z + 1 < 1 by omega)
      | 1, _ => intro j hj; match j, hj with | 0, _ => exact hs _ (by decide +kernel) | 1, _ => exact hs _ (by decide +kernel) | 2, _ => exact hs _ (by decide +kernel) | 3, _ => exact hs _ (by decide +kernel) | (z + 4), hj => exact absurd hj (show ¬ z + 4 < 4 by omega)
      | 2, _ => intro j hj; match j, hj with | 0, _ => exact hs _ (by decide +kernel) | 1, _ => exact hs _ (by decide +kernel) | 2, _ => exact hs _ (by decide +kernel) | 3, _ => exact hs _ (by decide +kernel) | (z + 4), hj => exact absurd hj (show ¬ z + 4 < 4 by omega)
      | 3, _ => intro j hj; match j, hj with | 0, _ => exact hs _ (by decide +kernel) | 1, _ => exact hs _ (by decide +kernel) | 2, _ => exact hs _ (by decide +kernel) | 3, _ => exact hs _ (by decide +kernel) | (z + 4), hj => exact absurd hj (show ¬ z + 4 < 4 by omega)
      | 4, _ => intro j hj; match j, hj with | 0, _ => exact hs _ (by decide +kernel) | 1, _ => exact hs _ (by decide +kernel) | 2, _ => exact hs _ (by decide +kernel) | (z + 3), hj => exact absurd hj (show ¬ z + 3 < 3 by omega)
      | 5, _ => intro j hj; match j, hj with | 0, _ => exact hs _ (by decide +kernel) | (z + 1), hj => exact absurd hj (show ¬ z + 1 < 1 by omega)
      | 6, _ => intro j hj; exact absurd hj (Nat.not_lt_zero j)
      | 7, _ => intro j hj; match j, hj with | 0, _ => exact hs _ (by decide +kernel) | 1, _ => exact hs _ (by decide +kernel) | 2, _ => exact hs _ (by decide +kernel) | (z + 3), hj => exact absurd hj (show ¬ z + 3 < 3 by omega)
      | (j + 8), hi => exact absurd hi (by omega))
    (by
      intro i j hi
      match i, hi with
      | 0, _ => exact fun hj hne => (match j, hj, hne with | 0, _, hne => absurd rfl hne | 1, _, hne => Or.inl (hs _ (by decide +kernel)) | 2, _, hne => Or.inl (hs _ (by decide +kernel)) | 3, _, hne => Or.inl (hs _ (by decide +kernel)) | 4, _, hne => Or.inl (hs _ (by decide +kernel)) | 5, _, hne => Or.inl (hs _ (by decide +kernel)) | 6, _, hne => Or.inl (hs _ (by decide +kernel)) | 7, _, hne => Or.inl (hs _ (by decide +kernel)) | (z + 8), hj, _ => absurd hj (by omega))
      | 1, _ => exact fun hj hne => (match j, hj, hne with | 0, _, hne => Or.inr (hs _ (by decide +kernel)) | 1, _, hne => absurd rfl hne | 2, _, hne => Or.inl (hs _ (by decide +kernel)) | 3, _, hne => Or.inl (hs _ (by decide +kernel)) | 4, _, hne => Or.inl (hs _ (by decide +kernel)) | 5, _, hne => Or.inl (hs _ (by decide +kernel)) | 6, _, hne => Or.inl (hs _ (by decide +kernel)) | 7, _, hne => Or.inl (hs _ (by decide +kernel)) | (z + 8), hj, _ => absurd hj (by omega))
      | 2, _ => exact fun hj hne => (match j, hj, hne with | 0, _, hne => Or.inr (hs _ (by decide +kernel)) | 1, _, hne => Or.inr (hs _ (by decide +kernel)) | 2, _, hne => absurd rfl hne | 3, _, hne => Or.inl (hs _ (by decide +kernel)) | 4, _, hne => Or.inl (hs _ (by decide +kernel)) | 5, _, hne => Or.inl (hs _ (by decide +kernel)) | 6, _, hne => Or.inl (hs _ (by decide +kernel)) | 7, _, hne => Or.inl (hs _ (by decide +kernel)) | (z + 8), hj, _ => absurd hj (by omega))
      | 3, _ => exact fun hj hne => (match j, hj, hne with | 0, _, hne => Or.inr (hs _ (by decide +kernel)) | 1, _, hne => Or.inr (hs _ (by decide +kernel)) | 2, _, hne => Or.inr (hs _ (by decide +kernel)) | 3, _, hne => absurd rfl hne | 4, _, hne => Or.inl (hs _ (by decide +kernel)) | 5, _, hne => Or.inl (hs _ (by decide +kernel)) | 6, _, hne => Or.inl (hs _ (by decide +kernel)) | 7, _, hne => Or.inl (hs _ (by decide +kernel)) | (z + 8), hj, _ => absurd hj (by omega))
      | 4, _ => exact fun hj hne => (match j, hj, hne with | 0, _, hne => Or.inr (hs _ (by decide +kernel)) | 1, _, hne => Or.inr (hs _ (by decide +kernel)) | 2, _, hne => Or.inr (hs _ (by decide +kernel)) | 3, _, hne => Or.inr (hs _ (by decide +kernel)) | 4, _, hne => absurd rfl hne | 5, _, hne => Or.inl (hs _ (by decide +kernel)) | 6, _, hne => Or.inl (hs _ (by decide +kernel)) | 7, _, hne => Or.inl (hs _ (by decide +kernel)) | (z + 8), hj, _ => absurd hj (by omega))
      | 5, _ => exact fun hj hne => (match j, hj, hne with | 0, _, hne => Or.inr (hs _ (by decide +kernel)) | 1, _, hne => Or.inr (hs _ (by decide +kernel)) | 2, _, hne => Or.inr (hs _ (by decide +kernel)) | 3, _, hne => Or.inr (hs _ (by decide +kernel)) | 4, _, hne => Or.inr (hs _ (by decide +kernel)) | 5, _, hne => absurd rfl hne | 6, _, hne => Or.inl (hs _ (by decide +kernel)) | 7, _, hne => Or.inl (hs _ (by decide +kernel)) | (z + 8), hj, _ => absurd hj (by omega))
      | 6, _ => exact fun hj hne => (match j, hj, hne with | 0, _, hne => Or.inr (hs _ (by decide +kernel)) | 1, _, hne => Or.inr (hs _ (by decide +kernel)) | 2, _, hne => Or.inr (hs _ (by decide +kernel)) | 3, _, hne => Or.inr (hs _ (by decide +kernel)) | 4, _, hne => Or.inr (hs _ (by decide +kernel)) | 5, _, hne => Or.inr (hs _ (by decide +kernel)) | 6, _, hne => absurd rfl hne | 7, _, hne => Or.inl (hs _ (by decide +kernel)) | (z + 8), hj, _ => absurd hj (by omega))
      | 7, _ => exact fun hj hne => (match j, hj, hne with | 0, _, hne => Or.inr (hs _ (by decide +kernel)) | 1, _, hne => Or.inr (hs _ (by decide +kernel)) | 2, _, hne => Or.inr (hs _ (by decide +kernel)) | 3, _, hne => Or.inr (hs _ (by decide +kernel)) | 4, _, hne => Or.inr (hs _ (by decide +kernel)) | 5, _, hne => Or.inr (hs _ (by decide +kernel)) | 6, _, hne => Or.inr (hs _ (by decide +kernel)) | 7, _, hne => absurd rfl hne | (z + 8), hj, _ => absurd hj (by omega))
      | (z + 8), hi => exact absurd hi (by omega))
    hA
  refine ⟨(((fun k => if k = 0 then c0 else if k = 1 then c1 else if k = 2 then c2 else if k = 3 then c3 else if k = 4 then c4 else if k = 5 then c5 else c6), (fun k => if k = 0 then i0 else if k = 1 then i1 else if k = 2 then i2 else if k = 3 then i3 else if k = 4 then i4 else if k = 5 then i5 else i6)), aI, aC, aR, adK, adV), ⟨?_, ?_⟩, fun w hw => va_Nw.of (gNest_on w hw) (hts w (gNest_in w hw)), ?_, hS, ?_, ?_, va_AO.of hov⟩
  · intro k q hq
    match k, hq with
    | 0, hq => cases hq; exact hK0
    | 1, hq => cases hq; exact hK1
    | 2, hq => cases hq; exact hK2
    | 3, hq => cases hq; exact hK3
    | 4, hq => cases hq; exact hK4
    | 5, hq => cases hq; exact hK5
    | 6, hq => cases hq; exact hK6
    | k + 7, hq => simp [vwCl] at hq
  · intro k q hq
    match k, hq with
    | 0, hq => cases hq; exact ⟨fun n z => ⟨fun k h => (by cases h), kI, eI, mI, fI⟩, nI_⟩
    | 1, hq => cases hq; exact ⟨fun n z => ⟨fun k h => (by cases h), kC, eC, mC, fC⟩, nC⟩
    | 2, hq => cases hq; exact ⟨fun n z => ⟨fun k h => (by cases h), kR, eR, mR, fR⟩, kR, mR, eR, fR, nR0, nR⟩
    | k + 3, hq => simp [gTy] at hq
  · intro i hi
    match i, hi with
    | 0, _ => exact vk_R.of (hts (.stringRef "RoadPaint$Orders" 23 "?") (List.mem_of_getElem? (i := 520) (by decide +kernel))) (hT 0 (by omega))
    | 1, _ => exact vk_R.of (hts (.stringRef "RoadPaint$Orders" 46 "aLMY") (List.mem_of_getElem? (i := 539) (by decide +kernel))) (hT 1 (by omega))
    | 2, _ => exact vk_R.of (hts (.stringRef "RoadPaint$Orders" 48 "wLMW") (List.mem_of_getElem? (i := 540) (by decide +kernel))) (hT 2 (by omega))
    | 3, _ => exact vk_R.of (hts (.stringRef "RoadPaint$Orders" 50 "lNMD") (List.mem_of_getElem? (i := 541) (by decide +kernel))) (hT 3 (by omega))
    | 4, _ => exact vk_R.of (hts (.stringRef "RoadPaint$Orders" 52 "nMM") (List.mem_of_getElem? (i := 542) (by decide +kernel))) (hT 4 (by omega))
    | 5, _ => exact vk_R.of (hts (.stringRef "RoadPaint$Orders" 54 "d") (List.mem_of_getElem? (i := 543) (by decide +kernel))) (hT 5 (by omega))
    | 6, _ => exact vk_R.of (hts (.stringRef "RoadPaint$Orders" 56 "") (List.mem_of_getElem? (i := 544) (by decide +kernel))) (hT 6 (by omega))
    | 7, _ => exact vk_R.of (hts (.stringRef "RoadPaint$Orders" 66 "udb") (List.mem_of_getElem? (i := 593) (by decide +kernel))) (hT 7 (by omega))
    | (j + 8), hi => exact absurd hi (by omega)
  · exact va_Zof (hts (.laysStatic "java/lang/String" "COMPACT_STRINGS" "Z") (List.mem_of_getElem? (i := 535) (by decide +kernel))) (hts (.initialized "java/lang/String") (List.mem_of_getElem? (i := 55) (by decide +kernel))) (va_eqi (hs _ (by decide +kernel))) hA
  · exact va_Zqof (hts (.laysStatic "jdk/internal/util/Preconditions" "SIOOBE_FORMATTER" "Ljava/util/function/BiFunction;") (List.mem_of_getElem? (i := 567) (by decide +kernel))) (hts (.initialized "jdk/internal/util/Preconditions") (List.mem_of_getElem? (i := 57) (by decide +kernel))) (hs _ (by decide +kernel)) hA
