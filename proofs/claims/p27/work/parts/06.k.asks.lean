/-! what the class answers of cells, lines, totals -/
section AK
variable {u : Nat → Nat} {x : TX5s}
theorem bindS {β : Type} (o : Option β) : (o.bind fun z => some z) = o := by cases o <;> rfl
theorem isCell_y {l m : Nat} (hl : l < 3) (hm : m < 16) : f_X6_isCell (nI l) (nI m) = some 1 := by
  unfold f_X6_isCell
  rw [in_yes li0 li2 (by omega) (by omega) (by omega), in_yes li0 li15 (by omega) (by omega) (by omega)]
  rfl
theorem isLine_y {l m : Nat} (hl : l < 2) (hm : m < 16) : f_X6_isLine (nI l) (nI m) = some 1 := by
  unfold f_X6_isLine
  rw [in_yes li0 li1 (by omega) (by omega) (by omega), in_yes li0 li15 (by omega) (by omega) (by omega)]
  rfl
theorem cellC {l m k : Nat} (hl : l < 3) (hm : m < 16) (hk : k ≤ 6) : f_X5_cell x (nI l) (nI m) (nI k) = f_X3_cellPart x.1 (nI l) (nI m) (nI k) := by
  unfold f_X5_cell
  rw [placeError_0 (N := 6) (by rw [place3]; exact isCell_y hl hm) (in_yes li0 li6 (by omega) hk (by omega)) (by decide)]
  simp only [Option.bind_some, ↓reduceIte]
  exact bindS _
theorem lineC {l m k : Nat} (hl : l < 2) (hm : m < 16) (hk : k ≤ 1) : f_X5_line x (nI l) (nI m) (nI k) = f_X3_linePart x.1 (nI l) (nI m) (nI k) := by
  unfold f_X5_line
  rw [placeError_0 (N := 1) (by rw [place2]; exact isLine_y hl hm) (in_yes li0 li1 (by omega) hk (by omega)) (by decide)]
  simp only [Option.bind_some, ↓reduceIte]
  exact bindS _
theorem cell_0 (hr : RdU u x.1) (hu : UOk u) {l m : Nat} (hl : l < 3) (hm : m < 16) : f_X5_cell x (nI l) (nI m) 0 = some (wyC (u (12 + 4 * (16 * l + m)))) := by
  refine (show f_X5_cell x (nI l) (nI m) 0 = f_X3_cellPart x.1 (nI l) (nI m) 0 from cellC hl hm (k := 0) (by omega)).trans ?_
  unfold f_X3_cellPart
  rw [if_neg (by decide), if_neg (by decide), if_pos rfl, arrowWay_u hr hu hl hm]
  rfl
theorem cell_1 (hr : RdU u x.1) {l m : Nat} (hl : l < 3) (hm : m < 16) : f_X5_cell x (nI l) (nI m) 1 = some (nI (u (13 + 4 * (16 * l + m)))) := by
  refine (show f_X5_cell x (nI l) (nI m) 1 = f_X3_cellPart x.1 (nI l) (nI m) 1 from cellC hl hm (k := 1) (by omega)).trans ?_
  unfold f_X3_cellPart
  rw [if_neg (by decide), if_neg (by decide), if_neg (by decide), if_pos rfl, strengthAt_u hr.1 (by omega) (show 16 * l + m < 48 by omega), show 12 + 4 * (16 * l + m) + 1 = 13 + 4 * (16 * l + m) by omega]
  rfl
theorem cell_2 (hr : RdU u x.1) (hu : UOk u) {l m : Nat} (hl : l < 3) (hm : m < 16) : f_X5_cell x (nI l) (nI m) 2 = some (wyC (u (14 + 4 * (16 * l + m)))) := by
  refine (show f_X5_cell x (nI l) (nI m) 2 = f_X3_cellPart x.1 (nI l) (nI m) 2 from cellC hl hm (k := 2) (by omega)).trans ?_
  unfold f_X3_cellPart
  rw [if_neg (by decide), if_neg (by decide), if_neg (by decide), if_neg (by decide), if_pos rfl, kindOr_u hr.2.1 hu.2.1 (by omega) (show 16 * l + m < 48 by omega)]
  rfl
theorem cell_3 (hr : RdU u x.1) {l m : Nat} (hl : l < 3) (hm : m < 16) : f_X5_cell x (nI l) (nI m) 3 = some (nI (u (15 + 4 * (16 * l + m)))) := by
  refine (show f_X5_cell x (nI l) (nI m) 3 = f_X3_cellPart x.1 (nI l) (nI m) 3 from cellC hl hm (k := 3) (by omega)).trans ?_
  unfold f_X3_cellPart
  rw [if_neg (by decide), if_neg (by decide), if_neg (by decide), if_neg (by decide), if_neg (by decide), if_pos rfl, strengthAt_u hr.2.1 (by omega) (show 16 * l + m < 48 by omega), show 14 + 4 * (16 * l + m) + 1 = 15 + 4 * (16 * l + m) by omega]
  rfl
theorem asRd {v : Nat} (h : v = 0 ∨ v = 1) : f_X5_asNumber (nI v) = some (nI v) := by
  rcases h with rfl | rfl <;> rfl
theorem rdN_01 {i : Nat} : rdN u i = 0 ∨ rdN u i = 1 := by
  unfold rdN
  split
  · exact Or.inl rfl
  · exact Or.inr rfl
theorem cell_4 (hr : RdU u x.1) (hu : UOk u) {l m : Nat} (hl : l < 3) (hm : m < 16) : f_X5_cell x (nI l) (nI m) 4 = some (nI (rdN u (16 * l + m))) := by
  refine (show f_X5_cell x (nI l) (nI m) 4 = f_X3_cellPart x.1 (nI l) (nI m) 4 from cellC hl hm (k := 4) (by omega)).trans ?_
  unfold f_X3_cellPart
  rw [if_neg (by decide), if_neg (by decide), if_neg (by decide), if_neg (by decide), if_neg (by decide), if_neg (by decide), if_pos rfl, canRead_u hr hu hl hm]
  simp only [Option.bind_some, asRd rdN_01]
theorem cell_5 (hr : RdU u x.1) (hu : UOk u) {l m : Nat} (hl : l < 3) (hm : m < 16) : f_X5_cell x (nI l) (nI m) 5 = some (if frB u l m 0 = true then 1 else 0) := by
  refine (show f_X5_cell x (nI l) (nI m) 5 = f_X3_cellPart x.1 (nI l) (nI m) 5 from cellC hl hm (k := 5) (by omega)).trans ?_
  unfold f_X3_cellPart
  rw [if_neg (by decide), if_neg (by decide), if_neg (by decide), if_neg (by decide), if_neg (by decide), if_neg (by decide), if_neg (by decide), if_pos rfl, show f_X3_isFree x.1 (nI l) (nI m) 0 = _ from free5 hr hu hl hm (d := 0) (by omega)]
  simp only [Option.bind_some, asN']
theorem cell_6 (hr : RdU u x.1) (hu : UOk u) {l m : Nat} (hl : l < 3) (hm : m < 16) : f_X5_cell x (nI l) (nI m) 6 = some (if frB u l m 1 = true then 1 else 0) := by
  refine (show f_X5_cell x (nI l) (nI m) 6 = f_X3_cellPart x.1 (nI l) (nI m) 6 from cellC hl hm (k := 6) (by omega)).trans ?_
  unfold f_X3_cellPart
  rw [if_neg (by decide), if_neg (by decide), if_neg (by decide), if_neg (by decide), if_neg (by decide), if_neg (by decide), if_neg (by decide), if_neg (by decide), if_pos rfl, show f_X3_isFree x.1 (nI l) (nI m) 1 = _ from free5 hr hu hl hm (d := 1) (by omega)]
  simp only [Option.bind_some, asN']
theorem line_0 (hr : RdU u x.1) (hu : UOk u) {l m : Nat} (hl : l < 2) (hm : m < 16) : f_X5_line x (nI l) (nI m) 0 = some (nI (u (204 + 2 * (16 * l + m)))) := by
  refine (show f_X5_line x (nI l) (nI m) 0 = f_X3_linePart x.1 (nI l) (nI m) 0 from lineC hl hm (k := 0) (by omega)).trans ?_
  unfold f_X3_linePart f_X3_dashAt
  rw [if_pos rfl, dashAt_u hr hu hl hm]
  rfl
theorem line_1 (hr : RdU u x.1) {l m : Nat} (hl : l < 2) (hm : m < 16) : f_X5_line x (nI l) (nI m) 1 = some (nI (u (205 + 2 * (16 * l + m)))) := by
  refine (show f_X5_line x (nI l) (nI m) 1 = f_X3_linePart x.1 (nI l) (nI m) 1 from lineC hl hm (k := 1) (by omega)).trans ?_
  unfold f_X3_linePart
  rw [if_neg (by decide), strengthAt_u hr.2.2.1 (by omega) (show 16 * l + m < 32 by omega), show 204 + 2 * (16 * l + m) + 1 = 205 + 2 * (16 * l + m) by omega]
  rfl
/-! totals -/
def nA (u : Nat → Nat) (i : Nat) : Nat := if u (12 + 4 * i) = 0 then 0 else 1
def nW (u : Nat → Nat) (i : Nat) : Nat := if u (14 + 4 * i) = 0 then 0 else 1
def nD (u : Nat → Nat) (i : Nat) : Nat := if u (204 + 2 * i) = 0 then 0 else 1
theorem total_0 (hr : RdU u x.1) (hu : UOk u) : f_X5_total x 0 = some (nI (sumN (nA u) 48)) := by
  refine (show f_X5_total x 0 = _ from tot5_0).trans ?_
  rw [count_u hr.1 hu.1 (by omega)]
  rfl
theorem total_1 (hr : RdU u x.1) (hu : UOk u) : f_X5_total x 1 = some (nI (sumN (nW u) 48)) := by
  refine (show f_X5_total x 1 = _ from tot5_1).trans ?_
  rw [count_u hr.2.1 hu.2.1 (by omega)]
  rfl
theorem total_2 (hr : RdU u x.1) (hu : UOk u) : f_X5_total x 2 = some (nI (sumN (nD u) 32)) := by
  refine (show f_X5_total x 2 = _ from tot5_2).trans ?_
  rw [count_u hr.2.2.1 hu.2.2.1 (by omega)]
  rfl
theorem total_3 (hr : RdU u x.1) (hu : UOk u) : f_X5_total x 3 = some (nI (sumN (rdN u) 48)) := by
  have h0 := hu.s0
  refine (show f_X5_total x 3 = _ from tot5_3).trans ?_
  rw [hr.2.2.2.2.1 0 (by omega), countFrom_u hr.2.1 (by omega) (show u 0 < 2 ^ 31 by omega) (fun i hi => (hu.2.1 i hi).1)]
  rw [Option.bind_some, sumN_congr (g := rdN u) (fun i hi => ?_)]
  unfold rdN
  rw [show 14 + 4 * i + 1 = 15 + 4 * i by omega]
theorem total_9 (hr : RdU u x.1) : f_X5_total x 9 = some (nI (sumN (fun i => u (13 + 4 * i) + u (15 + 4 * i)) 48 + sumN (fun i => u (205 + 2 * i)) 32)) := by
  refine (show f_X5_total x 9 = _ from tot5_9).trans ?_
  unfold f_X3_sumOfStrengths
  rw [sums_u hr.1 (by omega), sums_u hr.2.1 (by omega), sums_u hr.2.2.1 (by omega)]
  simp only [Option.bind_some, nI_add]
  have e : ∀ n, sumN (fun i => u (13 + 4 * i) + u (15 + 4 * i)) n = sumN (fun i => u (12 + 4 * i + 1)) n + sumN (fun i => u (14 + 4 * i + 1)) n := by
    intro n
    induction n with
    | zero => rfl
    | succ n ih =>
      rw [sumN, sumN, sumN, ih, show 12 + 4 * n + 1 = 13 + 4 * n by omega, show 14 + 4 * n + 1 = 15 + 4 * n by omega]
      omega
  rw [e, sumN_congr (f := fun i => u (205 + 2 * i)) (g := fun i => u (204 + 2 * i + 1)) (fun i hi => by rw [show 204 + 2 * i + 1 = 205 + 2 * i by omega])]
end AK
