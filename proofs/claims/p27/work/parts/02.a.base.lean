/-! the world of this claim: the numbers that stay the same (the classes' numbers and slots, the array classes) -/
abbrev GG : Type := va_G × ClassId × ClassId × ClassId
abbrev gD (g : GG) : va_G := g.1
abbrev gI (g : GG) : ClassId := g.2.1
abbrev gC (g : GG) : ClassId := g.2.2.1
abbrev gR (g : GG) : ClassId := g.2.2.2
abbrev gTy (g : GG) : List (ClassId × FieldType) := [(gI g, .int), (gC g, .char), (gR g, .object "RoadPaint$Road")]
/-- the words on nest mates -/
def gNest : List Cond := [.fieldLinkNest "RoadPaint" 118 "RoadPaint$Road" "arrows" "LRoadPaint$Signs;" "RoadPaint", .fieldLinkNest "RoadPaint" 128 "RoadPaint$Road" "words" "LRoadPaint$Signs;" "RoadPaint", .fieldLinkNest "RoadPaint" 131 "RoadPaint$Road" "dashes" "LRoadPaint$Signs;" "RoadPaint", .fieldLinkNest "RoadPaint" 134 "RoadPaint$Road" "settings" "[I" "RoadPaint", .fieldLinkNest "RoadPaint" 141 "RoadPaint$Road" "days" "I" "RoadPaint", .fieldLinkNest "RoadPaint" 144 "RoadPaint$Road" "nights" "I" "RoadPaint", .fieldLinkNest "RoadPaint" 147 "RoadPaint$Road" "repainted" "I" "RoadPaint", .fieldLinkNest "RoadPaint" 150 "RoadPaint$Road" "gone" "I" "RoadPaint", .fieldLinkNest "RoadPaint" 156 "RoadPaint$Road" "traffics" "[I" "RoadPaint", .fieldLinkNest "RoadPaint" 82 "RoadPaint$Road" "cans" "I" "RoadPaint", .methodLinkNest "RoadPaint$Road" 112 ⟨"RoadPaint", "asNumber", "(Z)I"⟩ "RoadPaint", .methodLinkNest "RoadPaint$Road" 136 ⟨"RoadPaint", "isWithin", "(III)Z"⟩ "RoadPaint", .methodLinkNest "RoadPaint$Signs" 32 ⟨"RoadPaint", "asNumber", "(Z)I"⟩ "RoadPaint"]
theorem gNest_on : ∀ w ∈ gNest, w.onTables = true := by decide +kernel
theorem gNest_warm {w : Cond} (hw : w ∈ gNest) {s U : State} (hW : s.WarmedH U.vm) (h : va_Nw w s) : va_Nw w U := by
  simp only [gNest, List.mem_cons, List.not_mem_nil, or_false] at hw
  repeat' (rcases hw with rfl | hw)
  all_goals first | exact va_Nw.warmF hW h | exact va_Nw.warmM hW h | (subst hw; first | exact va_Nw.warmF hW h | exact va_Nw.warmM hW h)
/-- what the tables say, outside of the places A that may be written -/
def EvG (g : GG) (A : Nat → Prop) (U : State) (H : Heap) : Prop :=
  va_K (gD g) vwCl (gTy g) U ∧ (∀ w ∈ gNest, va_Nw w U) ∧ va_AO "RoadPaint$Road" U
theorem EvG.warm {g : GG} {A : Nat → Prop} {s U : State} {H : Heap} (hW : s.WarmedH U.vm) (h : EvG g A s H) : EvG g A U H :=
  ⟨va_K.moved hW.alike h.1, fun w hw => gNest_warm hw hW (h.2.1 w hw), va_AO.moved hW.alike h.2.2⟩
theorem EvG.same {g : GG} {A : Nat → Prop} {u U : State} {H : Heap} (hv : u.vm = U.vm) (h : EvG g A u H) : EvG g A U H := by
  have ha : u.vm.Alike U.vm := by rw [hv]; exact Vm.Alike.refl U.vm
  exact ⟨va_K.moved ha h.1, fun w hw => va_Nw.same (gNest_on w hw) hv (h.2.1 w hw), va_AO.moved ha h.2.2⟩
theorem EvG.kept {g : GG} {A : Nat → Prop} {U : State} {H H1 : Heap} (h : EvG g A U H) (hq : ∀ a : Nat, a < H.size → ¬ A a → H1[a]? = H[a]?) : EvG g A U H1 := h
theorem EvG.narrow {g : GG} {A B : Nat → Prop} {U : State} {H : Heap} (h : EvG g A U H) (hAB : ∀ q, B q → A q) : EvG g B U H := h
/-! the contracts' form: a world before, a world behind -/
def PreC (g : GG) (W0 : va_W) (sz : Nat) : State → Prop := fun U => U.heap.size = sz ∧ va_P (gD g) vwCl W0 U.heap ∧ va_D (fun _ => True) W0 ∧ EvG g (va_A W0 sz) U U.heap
def PostC (g : GG) (W0 : va_W) (sz : Nat) (W1 : va_W) : State → Prop := fun t => va_P (gD g) vwCl W1 t.heap ∧ va_D (va_A W0 sz) W1
/-- a method with an int's answer -/
def CI (l : Launch) (y : MethodName) (ws : List Cond) (fr lo : Nat) (g : GG) (args : List Value) (W0 : va_W) (r : Int32) (W1 : va_W) : Prop := ∀ sz : Nat, Met l y ws { frames := fr, cells := 0, slots := 0, locals := lo } (va_Pc args (PreC g W0 sz)) (va_Qi (fun (r' : Int32) (_ : Unit) => r' = r) (fun _ => PostC g W0 sz W1) (va_A W0 sz)) 0 0 (va_A W0 sz)
/-- a method without an answer -/
def CV (l : Launch) (y : MethodName) (ws : List Cond) (fr lo : Nat) (g : GG) (args : List Value) (W0 : va_W) (W1 : va_W) : Prop := ∀ sz : Nat, Met l y ws { frames := fr, cells := 0, slots := 0, locals := lo } (va_Pc args (PreC g W0 sz)) (va_Qv (fun (_ : Unit) => True) (fun _ => PostC g W0 sz W1) (va_A W0 sz)) 0 0 (va_A W0 sz)
/-- a method that answers an object -/
def CR (l : Launch) (y : MethodName) (ws : List Cond) (fr lo : Nat) (g : GG) (args : List Value) (W0 : va_W) (r : Nat) (W1 : va_W) : Prop := ∀ sz : Nat, Met l y ws { frames := fr, cells := 0, slots := 0, locals := lo } (va_Pc args (PreC g W0 sz)) (va_Qr (fun (_ : Unit) => True) (fun _ a t => a = r ∧ PostC g W0 sz W1 t) (va_A W0 sz)) 0 0 (va_A W0 sz)
/-- a constructor: the world behind it is one of W1 -/
def CN (l : Launch) (y : MethodName) (ws : List Cond) (fr lo mc ms : Nat) (g : GG) (args : List Value) (W0 : va_W) (W1 : va_W → Prop) : Prop := ∀ sz : Nat, Met l y ws { frames := fr, cells := mc, slots := ms, locals := lo } (va_Pc args (PreC g W0 sz)) (va_Qv W1 (fun w => PostC g W0 sz w) (va_A W0 sz)) mc ms (va_A W0 sz)
theorem PreC.blind {g : GG} {W0 : va_W} {sz : Nat} {args : List Value} : FrameBlind (va_Pc args (PreC g W0 sz)) := fun a U g' mk q => ⟨q.1, q.2.1, q.2.2.1, q.2.2.2.1, EvG.same (show U.vm = (U.calling g' mk a).vm from rfl) q.2.2.2.2⟩
/-! worlds in blocks -/
theorem va_P_iff {D : va_G} {cl : List vw_C} {ws : va_W} {H : Heap} : va_P D cl ws H ↔ ∀ q ∈ ws, va_at D cl q H :=
  ⟨fun h q hq => by obtain ⟨k, hk⟩ := List.getElem?_of_mem hq; exact h k q hk, fun h k q hk => h q (List.mem_of_getElem? hk)⟩
theorem va_D_iff {A : Nat → Prop} {ws : va_W} : va_D A ws ↔ (ws.map Prod.fst).Nodup ∧ ∀ q ∈ ws, A q.1 := by
  constructor
  · intro h
    refine ⟨?_, fun q hq => by obtain ⟨k, hk⟩ := List.getElem?_of_mem hq; exact h.2 k q hk⟩
    rw [List.Nodup, List.pairwise_iff_getElem]
    intro i j hi hj hij e
    rw [List.length_map] at hi hj
    rw [List.getElem_map, List.getElem_map] at e
    have := h.1 i j _ _ (List.getElem?_eq_getElem hi) (List.getElem?_eq_getElem hj) e
    omega
  · intro h
    refine ⟨fun i j p q hp hq e => ?_, fun k q hk => h.2 q (List.mem_of_getElem? hk)⟩
    have hn := h.1
    rw [List.Nodup, List.pairwise_iff_getElem] at hn
    obtain ⟨hi, rfl⟩ := List.getElem?_eq_some_iff.mp hp
    obtain ⟨hj, rfl⟩ := List.getElem?_eq_some_iff.mp hq
    rcases Nat.lt_trichotomy i j with c | c | c
    · exact absurd (by rw [List.getElem_map, List.getElem_map]; exact e) (hn i j (by rw [List.length_map]; exact hi) (by rw [List.length_map]; exact hj) c)
    · exact c
    · exact absurd (by rw [List.getElem_map, List.getElem_map]; exact e.symm) (hn j i (by rw [List.length_map]; exact hj) (by rw [List.length_map]; exact hi) c)
theorem va_P.perm {D : va_G} {cl : List vw_C} {ws ws' : va_W} {H : Heap} (h : va_P D cl ws H) (hp : ws'.Perm ws) : va_P D cl ws' H := va_P_iff.mpr (fun q hq => va_P_iff.mp h q (hp.mem_iff.mp hq))
theorem va_D.perm {A : Nat → Prop} {ws ws' : va_W} (h : va_D A ws) (hp : ws'.Perm ws) : va_D A ws' := by
  have h1 := va_D_iff.mp h
  exact va_D_iff.mpr ⟨(List.Perm.nodup_iff (hp.map Prod.fst)).mpr h1.1, fun q hq => h1.2 q (hp.mem_iff.mp hq)⟩
def pick (bs : List va_W) (is : List Nat) : List va_W := is.filterMap (fun i => bs[i]?)
theorem pick_range (bs : List va_W) : pick bs (List.range bs.length) = bs := by
  unfold pick
  induction bs with
  | nil => rfl
  | cons b l ih =>
    rw [List.length_cons, List.range_succ_eq_map, List.filterMap_cons]
    simp only [List.getElem?_cons_zero, List.filterMap_map]
    refine congrArg (b :: ·) ?_
    refine Eq.trans ?_ ih
    exact congrArg (fun f => List.filterMap f _) (funext fun i => by simp)
theorem pick_perm {bs : List va_W} {is rs : List Nat} {n : Nat} (hn : bs.length = n) (h : (is ++ rs).Perm (List.range n)) : ((pick bs is).flatten ++ (pick bs rs).flatten).Perm bs.flatten := by
  subst hn
  have h1 : (pick bs (is ++ rs)).Perm (pick bs (List.range bs.length)) := h.filterMap _
  rw [pick_range] at h1
  have h2 := h1.flatten
  unfold pick at h2 ⊢
  rw [List.filterMap_append, List.flatten_append] at h2
  exact h2
def WdG (g : GG) (A : Nat → Prop) (H0 H : Heap) (locs : List Loc) (bs : List va_W) : Prop := va_P (gD g) vwCl bs.flatten H ∧ va_D A bs.flatten ∧ va_S A H0 H locs
theorem WdG.call {g : GG} {A : Nat → Prop} {H0 H H1 : Heap} {locs locs1 : List Loc} {bs bs' : List va_W} {is rs : List Nat} {n : Nat} {wc w1 : va_W} (hW : WdG g A H0 H locs bs) (hA : ∀ q, H0.size ≤ q → A q) (hn : bs.length = n) (hn' : bs'.length = n) (hp : (is ++ rs).Perm (List.range n)) (hc : (pick bs is).flatten = wc) (hc' : (pick bs' is).flatten = w1) (hr : pick bs' rs = pick bs rs)
    (hP1 : va_P (gD g) vwCl w1 H1) (hD1 : va_D (va_A wc H.size) w1) (hk : ∀ q : Nat, q < H.size → ¬ va_A wc H.size q → H1[q]? = H[q]?) (hS1 : va_S A H0 H1 locs1) : WdG g A H0 H1 locs1 bs' := by
  obtain ⟨hP, hD, hS⟩ := hW
  subst hc; subst hc'
  have hp1 := pick_perm hn hp
  have hp2 := pick_perm hn' hp
  rw [hr] at hp2
  have hPa := hP.perm hp1
  have hDa := va_D_iff.mp (hD.perm hp1)
  have hPr : va_P (gD g) vwCl (pick bs rs).flatten H := va_P_iff.mpr (fun q hq => va_P_iff.mp hPa q (List.mem_append_right _ hq))
  rw [List.map_append, List.nodup_append] at hDa
  obtain ⟨⟨-, hn2, hn3⟩, hDm⟩ := hDa
  have hDr : va_D A (pick bs rs).flatten := va_D_iff.mpr ⟨hn2, fun q hq => hDm q (List.mem_append_right _ hq)⟩
  have hF : ∀ q, va_A (pick bs is).flatten H.size q → A q := by
    intro q hq
    rcases hq with ⟨k, e, h⟩ | h
    · exact hDm (q, e) (List.mem_append_left _ (List.mem_of_getElem? h))
    · exact hA q (Nat.le_trans hS.1 h)
  have apart : ∀ q ∈ (pick bs rs).flatten, q.1 < H.size ∧ ¬ va_A (pick bs is).flatten H.size q.1 := by
    intro q hq
    have hl := (va_P_iff.mp hPr q hq).lt
    refine ⟨hl, fun h => ?_⟩
    rcases h with ⟨k, e, h⟩ | h
    · exact hn3 q.1 (List.mem_map.mpr ⟨(q.1, e), List.mem_of_getElem? h, rfl⟩) q.1 (List.mem_map.mpr ⟨q, hq, rfl⟩) rfl
    · omega
  have hP2 : va_P (gD g) vwCl ((pick bs' is).flatten ++ (pick bs rs).flatten) H1 := hP1.app (va_P_iff.mpr (fun q hq => (va_P_iff.mp hPr q hq).kept (hk q.1 (apart q hq).1 (apart q hq).2)))
  have hD2 : va_D A ((pick bs' is).flatten ++ (pick bs rs).flatten) := by
    refine va_D.app (hD1.weaken (fun _ q _ h => hF q.1 h)) hDr (fun i j p q hi hj e => ?_)
    exact (apart q (List.mem_of_getElem? hj)).2 (by rw [← e]; exact hD1.2 i p hi)
  exact ⟨hP2.perm hp2.symm, hD2.perm hp2.symm, hS1⟩
/-- what a callee needs of the world -/
theorem WdG.pre {g : GG} {A : Nat → Prop} {s U : State} {H : Heap} {locs : List Loc} {bs : List va_W} {is rs : List Nat} {n : Nat} {wc : va_W} (hW : WdG g A s.heap H locs bs) (hE : EvG g A s s.heap) (hA : ∀ q, s.heap.size ≤ q → A q) (hn : bs.length = n) (hp : (is ++ rs).Perm (List.range n)) (hc : (pick bs is).flatten = wc) (hU : U.heap = H) (hw : s.WarmedH U.vm) : PreC g wc H.size U := by
  obtain ⟨hP, hD, hS⟩ := hW
  subst hc
  have hp1 := pick_perm hn hp
  have hPa := hP.perm hp1
  have hDa := va_D_iff.mp (hD.perm hp1)
  rw [List.map_append, List.nodup_append] at hDa
  obtain ⟨⟨hn1, -, -⟩, hDm⟩ := hDa
  refine ⟨by rw [hU], ?_, va_D_iff.mpr ⟨hn1, fun _ _ => trivial⟩, ?_⟩
  · rw [hU]
    exact va_P_iff.mpr (fun q hq => va_P_iff.mp hPa q (List.mem_append_left _ hq))
  · rw [hU]
    refine EvG.warm hw ((hE.kept hS.2.1).narrow (fun q hq => ?_))
    rcases hq with ⟨k, e, h⟩ | h
    · exact hDm (q, e) (List.mem_append_left _ (List.mem_of_getElem? h))
    · exact hA q (Nat.le_trans hS.1 h)
theorem WdG.free {g : GG} {A : Nat → Prop} {H0 H : Heap} {locs : List Loc} {bs : List va_W} {is rs : List Nat} {n : Nat} {wc : va_W} (hW : WdG g A H0 H locs bs) (hA : ∀ q, H0.size ≤ q → A q) (hn : bs.length = n) (hp : (is ++ rs).Perm (List.range n)) (hc : (pick bs is).flatten = wc) : ∀ q, va_A wc H.size q → A q := by
  obtain ⟨hP, hD, hS⟩ := hW
  subst hc
  have hDa := va_D_iff.mp (hD.perm (pick_perm hn hp))
  intro q hq
  rcases hq with ⟨k, e, h⟩ | h
  · exact hDa.2 (q, e) (List.mem_append_left _ (List.mem_of_getElem? h))
  · exact hA q (Nat.le_trans hS.1 h)
theorem fl_at : ∀ {bs : List va_W} {i j : Nat} {b : va_W} {q : Nat × va_E}, bs[i]? = some b → b[j]? = some q → ∃ k : Nat, bs.flatten[k]? = some q ∧ ∀ q', bs.flatten.set k q' = (bs.set i (b.set j q')).flatten
  | [], _, _, _, _, hb, _ => by simp at hb
  | b0 :: l, 0, j, b, q, hb, hq => by
    rw [List.getElem?_cons_zero] at hb
    cases hb
    have hl := (List.getElem?_eq_some_iff.mp hq).1
    refine ⟨j, ?_, fun q' => ?_⟩
    · rw [List.flatten_cons, List.getElem?_append_left hl]; exact hq
    · rw [List.flatten_cons, List.set_cons_zero, List.flatten_cons, List.set_append_left _ _ hl]
  | b0 :: l, i + 1, j, b, q, hb, hq => by
    rw [List.getElem?_cons_succ] at hb
    obtain ⟨k, h1, h2⟩ := fl_at hb hq
    refine ⟨b0.length + k, ?_, fun q' => ?_⟩
    · rw [List.flatten_cons, List.getElem?_append_right (Nat.le_add_right _ _), Nat.add_sub_cancel_left]; exact h1
    · rw [List.flatten_cons, List.set_cons_succ, List.flatten_cons, ← h2 q', List.set_append_right _ _ (Nat.le_add_right _ _), Nat.add_sub_cancel_left]
