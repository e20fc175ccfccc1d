/-- the words on nest mates are among the tables' words -/
theorem gNest_in : ∀ w ∈ gNest, w ∈ lw_tbl := List.forall_mem_cons.mpr ⟨List.mem_of_getElem? (i := 57) (by decide +kernel), List.forall_mem_cons.mpr ⟨List.mem_of_getElem? (i := 59) (by decide +kernel), List.forall_mem_cons.mpr ⟨List.mem_of_getElem? (i := 61) (by decide +kernel), List.forall_mem_cons.mpr ⟨List.mem_of_getElem? (i := 65) (by decide +kernel), List.forall_mem_cons.mpr ⟨List.mem_of_getElem? (i := 69) (by decide +kernel), List.forall_mem_cons.mpr ⟨List.mem_of_getElem? (i := 71) (by decide +kernel), List.forall_mem_cons.mpr ⟨List.mem_of_getElem? (i := 73) (by decide +kernel), List.forall_mem_cons.mpr ⟨List.mem_of_getElem? (i := 75) (by decide +kernel), List.forall_mem_cons.mpr ⟨List.mem_of_getElem? (i := 63) (by decide +kernel), List.forall_mem_cons.mpr ⟨List.mem_of_getElem? (i := 67) (by decide +kernel), List.forall_mem_cons.mpr ⟨List.mem_of_getElem? (i := 445) (by decide +kernel), List.forall_mem_cons.mpr ⟨List.mem_of_getElem? (i := 183) (by decide +kernel), List.forall_mem_cons.mpr ⟨List.mem_of_getElem? (i := 237) (by decide +kernel), fun _ h => absurd h List.not_mem_nil⟩⟩⟩⟩⟩⟩⟩⟩⟩⟩⟩⟩⟩
set_option maxRecDepth 100000 in
set_option maxHeartbeats 4000000 in
theorem env_start {s : State} {b : Nat} (hts : ∀ w ∈ lw_tbl, w.before #[Value.ref b] s = true) : ∃ g : GG, EvG g (fun q => s.heap.size ≤ q) s s.heap := by
  have hl := fun w (h : w ∈ wsL_law) => hts w (wsL_law_in w h)
  obtain ⟨c0, i0, hK0⟩ := u_known (C := RX0) (T := TX0) (N := 1) (n := 1) hl inlX0 (hl (.instantiable RX0 1) (List.mem_of_getElem? (i := 25) rfl))
  obtain ⟨c1, i1, hK1⟩ := u_known (C := RX1) (T := TX1) (N := 3) (n := 3) hl inlX1 (hl (.instantiable RX1 3) (List.mem_of_getElem? (i := 17) rfl))
  obtain ⟨c2, i2, hK2⟩ := u_known (C := RX2) (T := TX2) (N := 2) (n := 2) hl inlX2 (hl (.instantiable RX2 2) (List.mem_of_getElem? (i := 21) rfl))
  obtain ⟨c3, i3, hK3⟩ := u_known (C := RX3) (T := TX3) (N := 10) (n := 10) hl inlX3 (hl (.instantiable RX3 10) (List.mem_of_getElem? (i := 11) rfl))
  obtain ⟨c4, i4, hK4⟩ := u_known (C := RX4) (T := TX4) (N := 3) (n := 3) hl inlX4 (hl (.instantiable RX4 3) (List.mem_of_getElem? (i := 33) rfl))
  obtain ⟨c5, i5, hK5⟩ := u_known (C := RX5) (T := TX5) (N := 6) (n := 6) hl inlX5 (hl (.instantiable RX5 6) (List.mem_of_getElem? (i := 1) rfl))
  obtain ⟨aI, kI, mI, nI_, eI, fI⟩ := Cond.arrayClass_spec (hl (.arrayClass .int) (List.mem_of_getElem? (i := 3) rfl))
  obtain ⟨aC, kC, mC, nC, eC, fC⟩ := Cond.arrayClass_spec (hl (.arrayClass .char) (List.mem_of_getElem? (i := 59) rfl))
  have hov := hts (.arrayOver (.object "RoadPaint$Road")) (List.mem_of_getElem? (i := 104) (by decide +kernel))
  obtain ⟨mR, aR, kR, nR0, nR1, eR, fR, nR⟩ := Cond.arrayOver_spec hov
  refine ⟨(((fun k => if k = 0 then c0 else if k = 1 then c1 else if k = 2 then c2 else if k = 3 then c3 else if k = 4 then c4 else c5), (fun k => if k = 0 then i0 else if k = 1 then i1 else if k = 2 then i2 else if k = 3 then i3 else if k = 4 then i4 else i5)), aI, aC, aR), ⟨?_, ?_⟩, fun w hw => va_Nw.of (gNest_on w hw) (hts w (gNest_in w hw)), va_AO.of hov⟩
  · intro k q hq
    match k, hq with
    | 0, hq => cases hq; exact hK0
    | 1, hq => cases hq; exact hK1
    | 2, hq => cases hq; exact hK2
    | 3, hq => cases hq; exact hK3
    | 4, hq => cases hq; exact hK4
    | 5, hq => cases hq; exact hK5
    | k + 6, hq => simp [vwCl] at hq
  · intro k q hq
    match k, hq with
    | 0, hq => cases hq; exact ⟨fun n z => ⟨fun k h => (by cases h), kI, eI, mI, fI⟩, nI_⟩
    | 1, hq => cases hq; exact ⟨fun n z => ⟨fun k h => (by cases h), kC, eC, mC, fC⟩, nC⟩
    | 2, hq => cases hq; exact ⟨fun n z => ⟨fun k h => (by cases h), kR, eR, mR, fR⟩, kR, mR, eR, fR, nR0, nR⟩
    | k + 3, hq => simp [gTy] at hq
