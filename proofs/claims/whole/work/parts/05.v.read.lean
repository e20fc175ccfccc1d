/-! the reference reads a text -/
def setT (y : TX6s) (told : Nat → Int32) (m s w : Int32) : TX6s := (y.1, y.2.1, y.2.2.1, y.2.2.2.1, y.2.2.2.2.1, y.2.2.2.2.2.1, y.2.2.2.2.2.2.1, y.2.2.2.2.2.2.2.1, told, m, s, w)
def sT (y : TX6s) (told : Nat → Int32) (m : Int32) (st : Nat × Bool) : TX6s := setT y told m (nI (if st.2 = true then st.1 else st.1 + 1)) (if st.2 = true then -6 else nI st.1)
def TY (y : TX6s) (n : Nat) (L : Nat → Int32) : Prop := n ≤ 70 ∧ y.2.2.2.2.2.2.1 = nI n ∧ ∀ i, i < n → y.2.2.2.2.2.1 i = L i
section RD
variable {y : TX6s} {n : Nat} {L : Nat → Int32} {told : Nat → Int32} {m : Int32}
theorem letter_s (h : TY y n L) (s : Nat) (hs : s ≤ 71) (w : Int32) : f_X6_letter (setT y told m (nI s) w) = some (if n ≤ s then -6 else L s) := by
  obtain ⟨h1, h2, h3⟩ := h
  have q1 : (setT y told m (nI s) w).2.2.2.2.2.2.1 = y.2.2.2.2.2.2.1 := rfl
  have q2 : (setT y told m (nI s) w).2.2.2.2.2.2.2.2.2.2.1 = nI s := rfl
  have q3 : (setT y told m (nI s) w).2.2.2.2.2.1 = y.2.2.2.2.2.1 := rfl
  unfold f_X6_letter
  simp only [q1, q2, q3, h2, leN (show n < 2 ^ 31 by omega) (show s < 2 ^ 31 by omega)]
  by_cases hn : n ≤ s
  · rw [if_pos hn, if_pos hn]
  · simp only [if_neg hn, nI_clamp (show s < 2 ^ 31 by omega), g_in2 (show s < 70 by omega) (by omega), ↓reduceIte]
    rw [h3 s (by omega)]
theorem wants_s (s : Nat) (b : Bool) : f_X6_wants (setT y told m (nI s) (-6)) (if b = true then 1 else 0) = some (sT y told m (if b = true then (s + 1, true) else (s, false))) := by
  unfold f_X6_wants f_X6_wants_j23
  rw [if_pos (show (setT y told m (nI s) (-6)).2.2.2.2.2.2.2.2.2.2.2 = -6 from rfl)]
  cases b with
  | true =>
    rw [if_neg (show ¬ (if true = true then (1 : Int32) else 0) = 0 by decide)]
    show some (setT y told m (nI s + 1) (-6)) = some (setT y told m (nI (s + 1)) (-6))
    rw [nI_1]
  | false =>
    rw [if_pos (show (if false = true then (1 : Int32) else 0) = 0 by decide)]
    show some (setT y told m (nI s + 1) (nI s)) = some (setT y told m (nI (s + 1)) (nI s))
    rw [nI_1]
theorem wants_b (s : Nat) (hs : s ≤ 70) (w : Int32) : f_X6_wants (sT y told m (s, false)) w = some (sT y told m (s, false)) := by
  unfold f_X6_wants
  have hw : ¬ (sT y told m (s, false)).2.2.2.2.2.2.2.2.2.2.2 = -6 := by
    show ¬ nI s = -6
    rw [nI_ne6 (by omega)]; exact id
  rw [if_neg hw]
theorem sT_f {p : Nat} : sT y told m (p, false) = setT y told m (nI (p + 1)) (nI p) := rfl
theorem sT_t {p : Nat} : sT y told m (p, true) = setT y told m (nI p) (-6) := rfl
theorem stp_no {n : Nat} {L : Nat → Int32} {kd p : Nat} (h : ¬ (p < n ∧ chk kd (L p) = true)) : stp n L kd (p, true) = (p, false) := by
  unfold stp
  rw [if_neg (fun z => h ⟨z.2.1, z.2.2⟩)]
theorem stp_yes {n : Nat} {L : Nat → Int32} {kd p : Nat} (h1 : p < n) (h2 : chk kd (L p) = true) : stp n L kd (p, true) = (p + 1, true) := by
  unfold stp
  rw [if_pos ⟨rfl, h1, h2⟩]
theorem ff {α : Prop} (h : false = true) : α := by cases h
/-- one letter -/
theorem rd_s (h : TY y n L) {kd : Nat} (st : Nat × Bool) (hs : st.1 ≤ 70) (F : TX6s → Option (Int32 × TX6s)) (V : Int32 → Int32)
    (hF : ∀ Y c, f_X6_letter Y = some c → F Y = (f_X6_wants Y (if chk kd c = true then 1 else 0)).bind fun Y' => some (V c, Y')) (h6 : chk kd (-6) = false) (hV : ∀ c, chk kd c = true → V c = vl kd c) :
    ∃ x, F (sT y told m st) = some (x, sT y told m (stp n L kd st)) ∧ ((stp n L kd st).2 = true → x = vl kd (L st.1)) := by
  obtain ⟨p, b⟩ := st
  cases b with
  | false =>
    rw [sT_f, hF _ _ (letter_s h (p + 1) (by omega) _)]
    have e : ∀ w, f_X6_wants (setT y told m (nI (p + 1)) (nI p)) w = some (sT y told m (p, false)) := fun w => wants_b p hs w
    refine ⟨V (if n ≤ p + 1 then -6 else L (p + 1)), ?_, ?_⟩
    · show (f_X6_wants (setT y told m (nI (p + 1)) (nI p)) _).bind _ = _
      rw [e, stp_bad]; rfl
    · rw [stp_bad]; intro z; exact ff z
  | true =>
    rw [sT_t, hF _ _ (letter_s h p (by omega) _)]
    by_cases hn : n ≤ p
    · rw [if_pos hn, h6]
      refine ⟨V (-6), ?_, ?_⟩
      · show (f_X6_wants (setT y told m (nI p) (-6)) (if false = true then 1 else 0)).bind _ = _
        rw [wants_s, stp_no (fun z => absurd z.1 (by omega))]; rfl
      · rw [stp_no (fun z => absurd z.1 (by omega))]; intro z; exact ff z
    · rw [if_neg hn]
      refine ⟨V (L p), ?_, ?_⟩
      · show (f_X6_wants (setT y told m (nI p) (-6)) (if chk kd (L p) = true then 1 else 0)).bind _ = _
        rw [wants_s]
        by_cases hc : chk kd (L p) = true
        · rw [if_pos hc, stp_yes (by omega) hc]; rfl
        · rw [if_neg hc, stp_no (fun z => hc z.2)]; rfl
      · by_cases hc : chk kd (L p) = true
        · intro _; exact hV _ hc
        · rw [stp_no (fun z => hc z.2)]; intro z; exact ff z
theorem figure_s (h : TY y n L) {kd : Nat} (h4 : kd ≠ 4) (h5 : kd ≠ 5) (st : Nat × Bool) (hs : st.1 ≤ 70) : ∃ x, f_X6_figure (sT y told m st) (nI kd) = some (x, sT y told m (stp n L kd st)) ∧ ((stp n L kd st).2 = true → x = vl kd (L st.1)) := by
  have hc : ∀ c : Int32, (if (¬ c - 48 < 0 ∧ ¬ nI kd < c - 48) then (1 : Int32) else 0) = if chk kd c = true then 1 else 0 := by
    intro c
    unfold chk
    simp only [if_neg h4, if_neg h5, decide_eq_true_eq]
  refine rd_s h st hs (fun Y => f_X6_figure Y (nI kd)) (fun c => c - 48) ?_ ?_ ?_
  · intro Y c hY
    show f_X6_figure Y (nI kd) = _
    unfold f_X6_figure
    rw [hY, Option.bind_some, in_chk, Option.bind_some, hc]
  · unfold chk
    rw [if_neg h4, if_neg h5, decide_eq_false_iff_not]
    exact fun z => z.1 (by decide)
  · intro c _
    unfold vl
    rw [if_neg h4, if_neg h5]
theorem mile_s (h : TY y n L) (st : Nat × Bool) (hs : st.1 ≤ 70) : ∃ x, f_X6_mile (sT y told m st) = some (x, sT y told m (stp n L 4 st)) ∧ ((stp n L 4 st).2 = true → x = vl 4 (L st.1)) := by
  have hc : ∀ c : Int32, (if (¬ c - 97 < 0 ∧ ¬ 15 < c - 97) then (1 : Int32) else 0) = if chk 4 c = true then 1 else 0 := by
    intro c
    unfold chk
    simp only [↓reduceIte, decide_eq_true_eq]
  refine rd_s h st hs (fun Y => f_X6_mile Y) (fun c => c - 97) ?_ ?_ ?_
  · intro Y c hY
    show f_X6_mile Y = _
    unfold f_X6_mile
    rw [hY, Option.bind_some, in_chk, Option.bind_some, hc]
  · decide
  · intro c _
    rfl
theorem way_s (h : TY y n L) (st : Nat × Bool) (hs : st.1 ≤ 70) : ∃ x, f_X6_way (sT y told m st) = some (x, sT y told m (stp n L 5 st)) ∧ ((stp n L 5 st).2 = true → x = vl 5 (L st.1)) := by
  have hc : ∀ c : Int32, chk 5 c = decide (c = 117 ∨ c = 100 ∨ c = 98) := fun c => rfl
  refine rd_s h st hs (fun Y => f_X6_way Y) (fun c => if c = 117 then 0 else if c = 100 then 1 else 2) ?_ ?_ ?_
  · intro Y c hY
    show f_X6_way Y = _
    unfold f_X6_way f_X6_way_j24 f_X6_way_j29
    rw [hY, Option.bind_some, hc]
    by_cases h1 : c = 117
    · subst h1; rfl
    · by_cases h2 : c = 100
      · subst h2; rfl
      · by_cases h3 : c = 98
        · subst h3; rfl
        · simp only [h1, h2, h3, or_self, decide_false, ↓reduceIte, Bool.false_eq_true]
  · decide
  · intro c _
    rfl
end RD
