/-! what the class does -/
def HS (h : TX1s) : Prop := ∃ o c : Nat, o < 5 ∧ c ≤ 5 ∧ h.2.1 = nI o ∧ h.2.2 = nI c ∧ ∀ i, i < 5 → Shp (h.1 i)
theorem m5 {s : Nat} (h : s < 2 ^ 20) : nI s - nI s / nI 5 * nI 5 = nI (s % 5) := by
  rw [pk_div (by omega) (by omega) (by omega), pk_mul, pk_sub (by omega), show s - s / 5 * 5 = s % 5 by omega]
theorem updR_eq {f : Nat → TX3s} {k : Nat} {v : TX3s} : updR f k v k = v := if_pos rfl
theorem updR_ne {f : Nat → TX3s} {k j : Nat} {v : TX3s} (h : j ≠ k) : updR f k v j = f j := if_neg h
section CA
variable {u : Nat → Nat} {r : TX3s} {x : TX5s}
theorem RZ.of (hr : RdU u r) (hu : UOk u) : ∃ z, RZ r z := by
  refine ⟨fun k => if k = 6 then r.2.2.2.2.2.2.1 else if k = 7 then r.2.2.2.2.2.2.2.1 else if k = 8 then r.2.2.2.2.2.2.2.2.1 else if k = 9 then r.2.2.2.2.2.2.2.2.2 else nI (u k), u, hr, fun k hk hk2 => ?_, hu, rfl, rfl, rfl, rfl⟩
  show (if k = 6 then _ else if k = 7 then _ else if k = 8 then _ else if k = 9 then _ else nI (u k)) = nI (u k)
  rw [if_neg (by omega), if_neg (by omega), if_neg (by omega), if_neg (by omega)]
theorem recC {h : TX1s} (hh : HS h) (hr : RdU u r) (hu : UOk u) : ∃ h', f_X1_record h r = some h' ∧ HS h' := by
  obtain ⟨o, c, ho, hc, e1, e2, e4⟩ := hh
  obtain ⟨z, hz⟩ := RZ.of hr hu
  have hi : (o + c) % 5 < 5 := Nat.mod_lt _ (by omega)
  obtain ⟨r', g1, g2, _⟩ := copy3 (e4 _ hi) hz
  unfold f_X1_record
  simp only [e1, e2, nI_add, li5, m5 (show o + c < 2 ^ 20 by omega), nI_clamp (show (o + c) % 5 < 2 ^ 31 by omega), g_in2 hi (show 5 < 2 ^ 31 by omega), ↓reduceIte, g1, Option.bind_some, leN (show 5 < 2 ^ 31 by omega) (show c < 2 ^ 31 by omega)]
  have hshp : ∀ i, i < 5 → Shp (updR h.1 ((o + c) % 5) r' i) := by
    intro i hi
    by_cases h : i = (o + c) % 5
    · subst h; rw [updR_eq]; exact g2.shp
    · rw [updR_ne h]; exact e4 i hi
  by_cases h5 : c = 5
  · rw [if_pos (by omega)]
    refine ⟨_, rfl, (o + 1) % 5, c, Nat.mod_lt _ (by omega), by omega, ?_, rfl, hshp⟩
    show nI o + 1 - (nI o + 1) / nI 5 * nI 5 = _
    rw [nI_1]
    exact m5 (by omega)
  · rw [if_neg (by omega)]
    exact ⟨_, rfl, o, c + 1, ho, by omega, rfl, nI_1 c, hshp⟩
theorem rcd (hh : HS x.2.2.2.1) (hr : RdU u x.1) (hu : UOk u) : ∃ h', f_X5_recordedRoad x = some (x.1, x.2.1, x.2.2.1, h', x.2.2.2.2.1, x.2.2.2.2.2) ∧ HS h' := by
  obtain ⟨h', e, g⟩ := recC hh hr hu
  exact ⟨h', by unfold f_X5_recordedRoad; rw [e]; rfl, g⟩
/-- after a change: the new numbers, what lies behind the road -/
def Nx (u' : Nat → Nat) (x x' : TX5s) : Prop := RdU u' x'.1 ∧ UOk u' ∧ HS x'.2.2.2.1 ∧ x'.1.2.2.2.2.2.2 = x.1.2.2.2.2.2.2
theorem pe3 {l b k n : Nat} {N : Int32} (hN : N = nI n) (hl : l < 3) (hb : b < 16) (hk : k < n) (hn : n < 2 ^ 20) : f_X5_placeError (nI l) 3 (nI b) (nI k) N = some 0 := by
  subst hN
  exact placeError_0 (N := nI (n - 1)) (by rw [place3]; exact isCell_y hl hb) (in_yes li0 rfl (by omega) (show k ≤ n - 1 by omega) (by omega)) (by rw [li1, pk_sub (by omega)])
theorem pe2 {l b k n : Nat} {N : Int32} (hN : N = nI n) (hl : l < 2) (hb : b < 16) (hk : k < n) (hn : n < 2 ^ 20) : f_X5_placeError (nI l) 2 (nI b) (nI k) N = some 0 := by
  subst hN
  exact placeError_0 (N := nI (n - 1)) (by rw [place2]; exact isLine_y hl hb) (in_yes li0 rfl (by omega) (show k ≤ n - 1 by omega) (by omega)) (by rw [li1, pk_sub (by omega)])
theorem whyNotC (hr : RdU u x.1) (hu : UOk u) {l b k c1 c3 : Nat} (hl : l < 3) (hb : b < 16) (hk : k < 3) (hc1 : c1 ≤ 3) (hc3 : c3 ≤ 3) (e1 : f_X3_nearestArrow x.1 (nI l) (nI b) 1 = some (wyC c1)) (e3 : f_X3_nearestArrow x.1 (nI l) (nI b) (-1) = some (wyC c3)) : f_X5_whyNot x (nI l) (nI b) (nI k) = some (nI (reasonN u l b k c1 c3)) := by
  unfold f_X5_whyNot
  rw [pe3 li3 hl hb hk (by omega)]
  simp only [Option.bind_some, ↓reduceIte, refusal_c hr hu hl hb hk hc1 hc3 e1 e3]
theorem arrowC (hr : RdU u x.1) (hu : UOk u) (hh : HS x.2.2.2.1) {l b k c1 c3 : Nat} (hl : l < 3) (hb : b < 16) (hk : k < 3) (hc1 : c1 ≤ 3) (hc3 : c3 ≤ 3) (e1 : f_X3_nearestArrow x.1 (nI l) (nI b) 1 = some (wyC c1)) (e3 : f_X3_nearestArrow x.1 (nI l) (nI b) (-1) = some (wyC c3)) : (reasonN u l b k c1 c3 ≠ 0 → f_X5_arrow x (nI l) (nI b) (nI k) = some (-3, x)) ∧ (reasonN u l b k c1 c3 = 0 → ∃ x', f_X5_arrow x (nI l) (nI b) (nI k) = some (nI (sumN (nA (set2 u (12 + 4 * (16 * l + b)) (k + 1) 100)) 48), x') ∧ Nx (set2 u (12 + 4 * (16 * l + b)) (k + 1) 100) x x') := by
  have hle := @reasonN_le u l b k c1 c3
  have he : f_X5_arrowError x (nI l) (nI b) (nI k) = if reasonN u l b k c1 c3 = 0 then some 0 else some (-3) := by
    unfold f_X5_arrowError
    rw [pe3 li3 hl hb hk (by omega)]
    simp only [Option.bind_some, ↓reduceIte, refusal_c hr hu hl hb hk hc1 hc3 e1 e3, eq0 (show reasonN u l b k c1 c3 < 2 ^ 31 by omega)]
  unfold f_X5_arrow
  constructor
  · intro h0
    rw [he, if_neg h0]
    rfl
  · intro h0
    rw [he, if_pos h0]
    obtain ⟨h', q1, q2⟩ := rcd hh hr hu
    obtain ⟨s', g1, g2, g3⟩ := ntA hr hu hl hb hk
    simp only [Option.bind_some, ↓reduceIte, q1]
    unfold f_X3_putArrow
    simp only [g1, Option.bind_some, count_u g2.1 g3.1 (show 48 ≤ 48 by omega)]
    exact ⟨_, rfl, g2, g3, q2, rfl⟩
theorem wordC (hr : RdU u x.1) (hu : UOk u) (hh : HS x.2.2.2.1) {l b k : Nat} (hl : l < 3) (hb : b < 16) (hk : k < 4) : ∃ x', f_X5_word x (nI l) (nI b) (nI k) = some (nI (sumN (nW (set2 u (14 + 4 * (16 * l + b)) (k + 1) 100)) 48), x') ∧ Nx (set2 u (14 + 4 * (16 * l + b)) (k + 1) 100) x x' := by
  obtain ⟨h', q1, q2⟩ := rcd hh hr hu
  obtain ⟨s', g1, g2, g3⟩ := ntW hr hu hl hb hk
  unfold f_X5_word
  rw [pe3 li4 hl hb hk (by omega)]
  simp only [Option.bind_some, ↓reduceIte, q1]
  unfold f_X3_putWord
  simp only [g1, Option.bind_some, count_u g2.2.1 g3.2.1 (show 48 ≤ 48 by omega)]
  exact ⟨_, rfl, g2, g3, q2, rfl⟩
theorem dashC (hr : RdU u x.1) (hu : UOk u) (hh : HS x.2.2.2.1) {l b k : Nat} (hl : l < 2) (hb : b < 16) (hk : k < 4) : ∃ x', f_X5_dash x (nI l) (nI b) (nI k) = some (nI (u (204 + 2 * (16 * l + b))), x') ∧ Nx (set2 u (204 + 2 * (16 * l + b)) k (if k = 0 then 0 else 100)) x x' := by
  obtain ⟨h', q1, q2⟩ := rcd hh hr hu
  unfold f_X5_dash
  rw [pe2 li4 hl hb hk (by omega)]
  simp only [Option.bind_some, ↓reduceIte, q1]
  unfold f_X3_putDash f_X3_dashAt
  rw [dashAt_u hr hu hl hb]
  simp only [Option.bind_some, eq0 (show k < 2 ^ 31 by omega)]
  by_cases h0 : k = 0
  · obtain ⟨s', e1, hr', hu'⟩ := lsD hr hu hl hb (show 100 ≤ 1000 by omega)
    have h9 := hu.2.2.1 _ (show 16 * l + b < 32 by omega)
    rw [rd_ext (lsU_0 h9.1 h9.2.1)] at hr' hu'
    rw [if_pos h0, if_pos h0, h0]
    unfold f_X4_remove
    rw [li100, e1]
    exact ⟨_, rfl, hr', hu', q2, rfl⟩
  · obtain ⟨s', e1, hr', hu'⟩ := ntD hr hu hl hb hk h0
    rw [if_neg h0, if_neg h0, e1]
    exact ⟨_, rfl, hr', hu', q2, rfl⟩
theorem eraseC (hr : RdU u x.1) (hu : UOk u) (hh : HS x.2.2.2.1) {l b : Nat} (hl : l < 3) (hb : b < 16) : ∃ x', f_X5_erase x (nI l) (nI b) = some (nI (nA u (16 * l + b) + nW u (16 * l + b)), x') ∧ Nx (set2 (set2 u (12 + 4 * (16 * l + b)) 0 0) (14 + 4 * (16 * l + b)) 0 0) x x' := by
  obtain ⟨h', q1, q2⟩ := rcd hh hr hu
  have h9 := hu.1 _ (show 16 * l + b < 48 by omega)
  obtain ⟨s1, e1, hr1, hu1⟩ := lsA hr hu hl hb (show 100 ≤ 1000 by omega)
  rw [rd_ext (lsU_0 h9.1 h9.2.1)] at hr1 hu1
  have h8 := hu.2.1 _ (show 16 * l + b < 48 by omega)
  have z0 : set2 u (12 + 4 * (16 * l + b)) 0 0 (14 + 4 * (16 * l + b)) = u (14 + 4 * (16 * l + b)) := set2_n (by omega) (by omega)
  have z1 : set2 u (12 + 4 * (16 * l + b)) 0 0 (14 + 4 * (16 * l + b) + 1) = u (14 + 4 * (16 * l + b) + 1) := set2_n (by omega) (by omega)
  obtain ⟨s2, e2, hr2, hu2⟩ := lsW hr1 hu1 hl hb (show 100 ≤ 1000 by omega)
  rw [rd_ext (lsU_0 (by rw [z1]; exact h8.1) (by rw [z0, z1]; exact h8.2.1))] at hr2 hu2
  rw [z0, z1] at e2
  unfold f_X5_erase
  rw [place3, isCell_y hl hb]
  simp only [Option.bind_some, show ¬ (1 : Int32) = 0 by decide, ↓reduceIte, q1]
  unfold f_X3_clearCell f_X4_remove
  simp only [li100, e1, e2, Option.bind_some, show u (12 + 4 * (16 * l + b) + 1) - 100 = 0 by omega, show u (14 + 4 * (16 * l + b) + 1) - 100 = 0 by omega, ↓reduceIte]
  refine ⟨((s1, s2, x.1.2.2), x.2.1, x.2.2.1, h', x.2.2.2.2.1, x.2.2.2.2.2), ?_, hr2, hu2, q2, rfl⟩
  refine congrArg (fun z => some (z, _)) ?_
  unfold nA nW
  rw [← nI_add, nIif, nIif]
  rfl
/-- a number changes -/
def low1 (u : Nat → Nat) (i v : Nat) : Nat → Nat := fun k => if k = i then v else u k
theorem low1_i {i v : Nat} : low1 u i v i = v := if_pos rfl
theorem low1_n {i v k : Nat} (h : k ≠ i) : low1 u i v k = u k := if_neg h
theorem low1_ok {i v : Nat} (hu : UOk u) (hi : i < 6) (k0 : i = 0 → 1 ≤ v ∧ v ≤ 100) (k1 : i = 1 → 1 ≤ v ∧ v ≤ 40) (k2 : 2 ≤ i → i < 5 → v ≤ 20) (k5 : i = 5 → v ≤ 99) : UOk (low1 u i v) := by
  refine ⟨fun j hj => ?_, fun j hj => ?_, fun j hj => ?_, ?_, ?_, fun j hj => ?_, ?_⟩
  · rw [low1_n (by omega), low1_n (by omega)]; exact hu.1 j hj
  · rw [low1_n (by omega), low1_n (by omega)]; exact hu.2.1 j hj
  · rw [low1_n (by omega), low1_n (by omega)]; exact hu.2.2.1 j hj
  · by_cases e : 0 = i
    · rw [← e, low1_i]; exact k0 e.symm
    · rw [low1_n e]; exact hu.s0
  · by_cases e : 1 = i
    · rw [← e, low1_i]; exact k1 e.symm
    · rw [low1_n e]; exact hu.s1
  · by_cases e : 2 + j = i
    · rw [e, low1_i]; exact k2 (by omega) (by omega)
    · rw [low1_n e]; exact hu.T hj
  · by_cases e : 5 = i
    · rw [← e, low1_i]; exact k5 e.symm
    · rw [low1_n e]; exact hu.c5
theorem low1_rd {i v : Nat} {r r' : TX3s} (hr : RdU u r) (hi : i < 6) (h1 : r'.1 = r.1) (h2 : r'.2.1 = r.2.1) (h3 : r'.2.2.1 = r.2.2.1) (h4 : ∀ j, j < 3 → r'.2.2.2.1 j = nI (low1 u i v (2 + j))) (h5 : ∀ j, j < 2 → r'.2.2.2.2.1 j = nI (low1 u i v j)) (h6 : r'.2.2.2.2.2.1 = nI (low1 u i v 5)) : RdU (low1 u i v) r' := by
  refine ⟨?_, ?_, ?_, h4, h5, h6⟩
  · rw [h1]
    refine ⟨hr.1.1, hr.1.2.1, fun j hj => ?_⟩
    rw [low1_n (by omega), low1_n (by omega)]
    exact hr.1.2.2 j hj
  · rw [h2]
    refine ⟨hr.2.1.1, hr.2.1.2.1, fun j hj => ?_⟩
    rw [low1_n (by omega), low1_n (by omega)]
    exact hr.2.1.2.2 j hj
  · rw [h3]
    refine ⟨hr.2.2.1.1, hr.2.2.1.2.1, fun j hj => ?_⟩
    rw [low1_n (by omega), low1_n (by omega)]
    exact hr.2.2.1.2.2 j hj
theorem setC_u (hr : RdU u x.1) (hu : UOk u) (hh : HS x.2.2.2.1) {i v : Nat} (hi : i < 2) (h1 : 1 ≤ v) (h2 : v ≤ if i = 0 then 100 else 40) : ∃ x', f_X5_set x (nI i) (nI v) = some (nI (u i), x') ∧ Nx (low1 u i v) x x' := by
  obtain ⟨h', q1, q2⟩ := rcd hh hr hu
  have hok : UOk (low1 u i v) := low1_ok hu (by omega) (fun e => by rw [if_pos e] at h2; exact ⟨h1, h2⟩) (fun e => by rw [if_neg (by omega)] at h2; exact ⟨h1, h2⟩) (fun e => by omega) (fun e => by omega)
  have key : ∀ m, v ≤ m → m ≤ 100 → ∃ x', f_X5_set_j22 x (nI i) (nI v) (nI m) = some (nI (u i), x') ∧ Nx (low1 u i v) x x' := by
    intro m hm hm2
    unfold f_X5_set_j22
    rw [isW, in_yes li1 rfl h1 hm (by omega)]
    simp only [Option.bind_some, show ¬ (1 : Int32) = 0 by decide, ↓reduceIte, q1]
    unfold f_X3_changeSetting
    simp only [nI_clamp (show i < 2 ^ 31 by omega), g_in2 hi (show 2 < 2 ^ 31 by omega), ↓reduceIte, hr.2.2.2.2.1 i hi, Option.bind_some]
    refine ⟨_, rfl, low1_rd hr (by omega) rfl rfl rfl (fun j hj => ?_) (fun j hj => ?_) ?_, hok, q2, rfl⟩
    · rw [low1_n (by omega)]; exact hr.2.2.2.1 j hj
    · by_cases hji : j = i
      · rw [hji, low1_i]; exact upd_eq
      · rw [low1_n hji]; exact (upd_ne hji).trans (hr.2.2.2.2.1 j hj)
    · rw [low1_n (by omega)]; exact hr.2.2.2.2.2
  unfold f_X5_set
  rw [isW, in_yes li0 li1 (by omega) (show i ≤ 1 by omega) (by omega)]
  simp only [Option.bind_some, show ¬ (1 : Int32) = 0 by decide, ↓reduceIte, eq0 (show i < 2 ^ 31 by omega)]
  by_cases h0 : i = 0
  · simp only [if_pos h0] at h2 ⊢
    exact key 100 h2 (by omega)
  · simp only [if_neg h0] at h2 ⊢
    exact key 40 h2 (by omega)
theorem trafficC (hr : RdU u x.1) (hu : UOk u) (hh : HS x.2.2.2.1) {i v : Nat} (hi : i < 3) (h2 : v ≤ 20) : ∃ x', f_X5_traffic x (nI i) (nI v) = some (nI (u (2 + i)), x') ∧ Nx (low1 u (2 + i) v) x x' := by
  obtain ⟨h', q1, q2⟩ := rcd hh hr hu
  have hok : UOk (low1 u (2 + i) v) := low1_ok hu (by omega) (fun e => by omega) (fun e => by omega) (fun _ _ => h2) (fun e => by omega)
  unfold f_X5_traffic
  rw [isW, isW, in_yes li0 li2 (by omega) (show i ≤ 2 by omega) (by omega), in_yes li0 li20 (by omega) h2 (by omega)]
  simp only [Option.bind_some, show ¬ (1 : Int32) = 0 by decide, ↓reduceIte, q1]
  unfold f_X3_changeTraffic
  simp only [nI_clamp (show i < 2 ^ 31 by omega), g_in2 hi (show 3 < 2 ^ 31 by omega), ↓reduceIte, hr.2.2.2.1 i hi, Option.bind_some]
  refine ⟨_, rfl, low1_rd hr (by omega) rfl rfl rfl (fun j hj => ?_) (fun j hj => ?_) ?_, hok, q2, rfl⟩
  · by_cases hji : j = i
    · rw [hji, low1_i]; exact upd_eq
    · rw [low1_n (by omega)]; exact (upd_ne hji).trans (hr.2.2.2.1 j hj)
  · rw [low1_n (by omega)]; exact hr.2.2.2.2.1 j hj
  · rw [low1_n (by omega)]; exact hr.2.2.2.2.2
theorem bringC (hr : RdU u x.1) (hu : UOk u) (hh : HS x.2.2.2.1) {v : Nat} (h1 : 1 ≤ v) (h2 : v ≤ 99) : (99 < u 5 + v → f_X5_bring x (nI v) = some (-4, x)) ∧ (u 5 + v ≤ 99 → ∃ x', f_X5_bring x (nI v) = some (nI (u 5 + v), x') ∧ Nx (low1 u 5 (u 5 + v)) x x') := by
  have h99 := hu.c5
  unfold f_X5_bring
  rw [isW, in_yes li1 li99 h1 h2 (by omega)]
  simp only [Option.bind_some, show ¬ (1 : Int32) = 0 by decide, ↓reduceIte, hr.2.2.2.2.2, nI_add, li99, leN (show u 5 + v < 2 ^ 31 by omega) (show 99 < 2 ^ 31 by omega)]
  constructor
  · intro h9
    rw [if_neg (by omega)]
  · intro h9
    obtain ⟨h', q1, q2⟩ := rcd hh hr hu
    have hok : UOk (low1 u 5 (u 5 + v)) := low1_ok hu (by omega) (fun e => by omega) (fun e => by omega) (fun _ _ => by omega) (fun _ => h9)
    simp only [if_pos h9, q1, Option.bind_some]
    unfold f_X3_addCans
    simp only [hr.2.2.2.2.2, nI_add, Option.bind_some]
    refine ⟨_, rfl, low1_rd hr (by omega) rfl rfl rfl (fun j hj => ?_) (fun j hj => ?_) ?_, hok, q2, rfl⟩
    · rw [low1_n (by omega)]; exact hr.2.2.2.1 j hj
    · rw [low1_n (by omega)]; exact hr.2.2.2.2.1 j hj
    · rw [low1_i]
theorem passC (hr : RdU u x.1) (hu : UOk u) (hh : HS x.2.2.2.1) {n : Nat} (h1 : 1 ≤ n) (hn : n ≤ 30) : ∃ x', f_X5_pass x (nI n) = some (nI (gnI u n), x') ∧ RdU (dyI u n) x'.1 ∧ HS x'.2.2.2.1 ∧ x'.1.2.2.2.2.2.2.1 = x.1.2.2.2.2.2.2.1 + nI n ∧ x'.1.2.2.2.2.2.2.2.1 = x.1.2.2.2.2.2.2.2.1 ∧ x'.1.2.2.2.2.2.2.2.2.1 = x.1.2.2.2.2.2.2.2.2.1 ∧ x'.1.2.2.2.2.2.2.2.2.2 = x.1.2.2.2.2.2.2.2.2.2 + nI (gnI u n) := by
  obtain ⟨h', q1, q2⟩ := rcd hh hr hu
  obtain ⟨r', g1, g2, g3⟩ := daysC_u hr hu hn
  unfold f_X5_pass
  rw [isW, in_yes li1 li30 h1 hn (by omega)]
  simp only [Option.bind_some, show ¬ (1 : Int32) = 0 by decide, ↓reduceIte, q1, g1]
  exact ⟨_, rfl, g2, q2, g3⟩
theorem mayC (hr : RdU u x.1) (hu : UOk u) {f g m k : Nat} (hf : f < 3) (hg : g < 3) (hfg : g = f + 1 ∨ g + 1 = f) (hm : m < 16) (hk : k < 2) : f_X5_mayChange x (nI f) (nI g) (nI m) (nI k) = some (if okC u f g m k = true then 1 else 0) := by
  have habs : (if 0 ≤ (nI f - nI g) then (nI f - nI g) else 0 - (nI f - nI g)) = 1 := by
    have hf' : f = 0 ∨ f = 1 ∨ f = 2 := by omega
    have hg' : g = 0 ∨ g = 1 ∨ g = 2 := by omega
    rcases hf' with rfl | rfl | rfl <;> rcases hg' with rfl | rfl | rfl <;> first | (exfalso; omega) | decide
  unfold f_X5_mayChange
  rw [place3, place3, isCell_y hf hm, isCell_y hg hm, habs, isW, in_yes li0 li1 (by omega) (show k ≤ 1 by omega) (by omega)]
  simp only [Option.bind_some, show ¬ (1 : Int32) = 0 by decide, ↓reduceIte, allows_u hr hu hf hg (show f ≠ g by omega) hm hk, asN']
theorem readC (hr : RdU u x.1) (hu : UOk u) {l b : Nat} (hl : l < 3) (hb : b < 16) : f_X5_readableFor x (nI l) (nI b) = some (if u (14 + 4 * (16 * l + b)) = 0 then -6 else if u (15 + 4 * (16 * l + b)) < u 0 then 0 else if lsN u l b = 0 then -6 else nI ((u (15 + 4 * (16 * l + b)) - u 0) / lsN u l b + 1)) := by
  have g := hu.W (show 16 * l + b < 48 by omega)
  have h0 := hu.s0
  have hle : lsN u l b ≤ 20 := by rw [← ljN_a hl hb]; exact ljN_le hu (by omega)
  unfold f_X5_readableFor
  rw [place3, isCell_y hl hb]
  simp only [Option.bind_some, show ¬ (1 : Int32) = 0 by decide, ↓reduceIte]
  unfold f_X3_readableDays
  simp only [isAt_u hr.2.1 hu.2.1 (show 48 ≤ 48 by omega) (show 16 * l + b < 48 by omega), canRead_u hr hu hl hb, lossAt_u hr hu hl hb, strengthAt_u hr.2.1 (show 48 ≤ 48 by omega) (show 16 * l + b < 48 by omega), Option.bind_some, g_0 (show 0 < 2 by omega), cl0, hr.2.2.2.2.1 0 (by omega), eq0 (show lsN u l b < 2 ^ 31 by omega), show 14 + 4 * (16 * l + b) + 1 = 15 + 4 * (16 * l + b) by omega]
  by_cases c0 : u (14 + 4 * (16 * l + b)) = 0
  · simp only [if_pos c0, ↓reduceIte, Option.bind_some]
  · simp only [if_neg c0, show ¬ (1 : Int32) = 0 by decide, ↓reduceIte]
    unfold rdN
    by_cases c1 : u (15 + 4 * (16 * l + b)) < u 0
    · simp only [if_pos c1, show nI 0 = 0 from rfl, ↓reduceIte, Option.bind_some]
    · simp only [if_neg c1, show ¬ nI 1 = 0 by decide, ↓reduceIte]
      by_cases c2 : lsN u l b = 0
      · simp only [if_pos c2, Option.bind_some]
      · simp only [if_neg c2, pk_sub (show u 0 ≤ u (15 + 4 * (16 * l + b)) by omega), pk_div (show u (15 + 4 * (16 * l + b)) - u 0 < 2 ^ 31 by omega) (show 0 < lsN u l b by omega) (show lsN u l b < 2 ^ 31 by omega), nI_1, Option.bind_some]
end CA
