/-! the rows of this claim: what holds in a method's frame (CxG), worlds in blocks (WdG) -/
def CxG (p : Program) (s : State) (m : MethodId) (args : Array Value) (c : Code) (cc : ByteArray) (nL : Nat) (own : String) (Ts : List Cond) (g : GG) (A : Nat → Prop) : Prop :=
  CallFix p m c cc nL s args Ts own ∧ EvG g A s s.heap ∧ ∀ q : Nat, s.heap.size ≤ q → A q
section RP
variable {p : Program} {l : Launch} {e : Env} {R : Room} {s : State} {m : MethodId} {args : Array Value} {below : List Frame} {meth : Method} {c : Code} {H : Heap} {locs : List Loc} {cells slots : Nat} {Q : State → Prop}
variable {cc : ByteArray} {nL : Nat} {own : String} {Ts : List Cond} {g : GG} {A : Nat → Prop} {bs bs' : List va_W} {pc : Nat} {ls : Array Slot} {rest st0 : List Value} {a : Nat}
theorem r_get (C : CxG p s m args c cc nL own Ts g A) (hW : WdG g A s.heap H locs bs) {K ref : String} {T : u_T} {N ci index : Nat} {b : va_W} {fs : List Value} {v : Value} (i j k : Nat) (hb : bs[i]? = some b) (hq : b[j]? = some (a, .inr (ci, fs))) (hc : vwCl[ci]? = some (K, T, N)) (hin : ∀ w ∈ u_ws K T N, w ∈ Ts) (hk : k < N) (hlink : Cond.fieldLink own index ref (T k).2.1 (T k).2.2.1 ∈ Ts) (href : (T k).1 = ref) (hv : fs[k]? = some v) (hdg : decode cc pc = .ok (.getfield index, 3))
    (kk : W p l e R s m args below meth c H locs cells slots Q (F0 m (pc + 3) ls (v :: rest))) : W p l e R s m args below meth c H locs cells slots Q (F0 m pc ls (.ref a :: rest)) := by
  obtain ⟨⟨hx, hbb, hml, hown, hts⟩, hE, hA⟩ := C
  obtain ⟨q0, he, -⟩ := fl_at hb hq
  exact va_get (D := gD g) (tys := gTy g) (ci := ci) (v := v) (C := K) (T := T) (N := N) (fs := fs) hx hbb hts hin hown hE.1 hW.1 q0 he hc k hk (hts _ hlink) (fun _ h9 => by rw [← href]; exact h9) hv hdg kk
/-- a nest mate's field -/
theorem r_getN (C : CxG p s m args c cc nL own Ts g A) (hW : WdG g A s.heap H locs bs) {K ref host : String} {T : u_T} {N ci index : Nat} {b : va_W} {fs : List Value} {v : Value} (i j k : Nat) (hb : bs[i]? = some b) (hq : b[j]? = some (a, .inr (ci, fs))) (hc : vwCl[ci]? = some (K, T, N)) (hin : ∀ w ∈ u_ws K T N, w ∈ Ts) (hk : k < N) (hlink : Cond.fieldLinkNest own index ref (T k).2.1 (T k).2.2.1 host ∈ gNest) (href : (T k).1 = ref) (hv : fs[k]? = some v) (hdg : decode cc pc = .ok (.getfield index, 3))
    (kk : W p l e R s m args below meth c H locs cells slots Q (F0 m (pc + 3) ls (v :: rest))) : W p l e R s m args below meth c H locs cells slots Q (F0 m pc ls (.ref a :: rest)) := by
  obtain ⟨⟨hx, hbb, hml, hown, hts⟩, hE, hA⟩ := C
  obtain ⟨q0, he, -⟩ := fl_at hb hq
  exact va_getN (D := gD g) (tys := gTy g) (ci := ci) (v := v) (C := K) (T := T) (N := N) (fs := fs) hx hbb hts hin hown hE.1 hW.1 q0 he hc k hk (va_Nw.use rfl (hE.2.1 _ hlink)) (fun _ h9 => by rw [← href]; exact h9) hv hdg kk
theorem r_put (C : CxG p s m args c cc nL own Ts g A) (hW : WdG g A s.heap H locs bs) {K ref : String} {T : u_T} {N ci index : Nat} {b : va_W} {fs : List Value} {v : Value} {ty : FieldType} (i j k : Nat) (hb : bs[i]? = some b) (hq : b[j]? = some (a, .inr (ci, fs))) (hc : vwCl[ci]? = some (K, T, N)) (hin : ∀ w ∈ u_ws K T N, w ∈ Ts) (ty0 : Nat → FieldType) (hty : ∀ k, k < N → parseFieldDescriptor (T k).2.2.1 = some (ty0 k)) (hnm : ∀ a, a < N → ∀ b, b < N → a ≠ b → (T a).2.1 ≠ (T b).2.1) (hk : k < N) (hlink : Cond.fieldLink own index ref (T k).2.1 (T k).2.2.1 ∈ Ts) (href : (T k).1 = ref) (hfin : (T k).2.2.2 = false) (hd : parseFieldDescriptor (T k).2.2.1 = some ty) (hn : narrow ty v = v) (hfit : fits ty v = true) (hl : k < fs.length) (hdg : decode cc pc = .ok (.putfield index, 3)) (hbs : bs.set i (b.set j (a, .inr (ci, fs.set k v))) = bs')
    (kk : ∀ (H1 : Heap) (locs1 : List Loc), WdG g A s.heap H1 locs1 bs' → W p l e R s m args below meth c H1 locs1 cells slots Q (F0 m (pc + 3) ls rest)) : W p l e R s m args below meth c H locs cells slots Q (F0 m pc ls (v :: .ref a :: rest)) := by
  obtain ⟨⟨hx, hbb, hml, hown, hts⟩, hE, hA⟩ := C
  obtain ⟨q0, he, hse⟩ := fl_at hb hq
  subst hbs
  refine va_put (D := gD g) (tys := gTy g) (ci := ci) (v := v) (ty := ty) (C := K) (T := T) (N := N) hx hbb hts hin ty0 hty hnm hown hE.1 hW.1 hW.2.1 hW.2.2 q0 he hc k hk (hts _ hlink) (fun _ h9 => by rw [← href]; exact h9) hfin hd hn hfit hl hdg (fun H1 locs1 hP hD hS => ?_)
  rw [hse] at hP hD
  exact kk H1 locs1 ⟨hP, hD, hS⟩
theorem r_iald (C : CxG p s m args c cc nL own Ts g A) (hW : WdG g A s.heap H locs bs) {b : va_W} {n : Nat} {f : Nat → Int32} {x : Int32} (i j : Nat) (hb : bs[i]? = some b) (hq : b[j]? = some (a, .inl (gI g, n, .inl f))) (hin : vp_in x n) (hdg : decode cc pc = .ok (.iaload, 1))
    (kk : W p l e R s m args below meth c H locs cells slots Q (F0 m (pc + 1) ls (.int (f x.toNatClampNeg) :: rest))) : W p l e R s m args below meth c H locs cells slots Q (F0 m pc ls (.int x :: .ref a :: rest)) := by
  obtain ⟨⟨hx, hbb, hml, hown, hts⟩, hE, hA⟩ := C
  obtain ⟨q0, he, -⟩ := fl_at hb hq
  exact va_iald (tys := gTy g) hx hbb hE.1 hW.1 q0 0 he rfl hin hdg kk
theorem r_cald (C : CxG p s m args c cc nL own Ts g A) (hW : WdG g A s.heap H locs bs) {b : va_W} {n : Nat} {f : Nat → Int32} {x : Int32} (i j : Nat) (hb : bs[i]? = some b) (hq : b[j]? = some (a, .inl (gC g, n, .inl f))) (hin : vp_in x n) (hdg : decode cc pc = .ok (.caload, 1))
    (kk : W p l e R s m args below meth c H locs cells slots Q (F0 m (pc + 1) ls (.int (f x.toNatClampNeg) :: rest))) : W p l e R s m args below meth c H locs cells slots Q (F0 m pc ls (.int x :: .ref a :: rest)) := by
  obtain ⟨⟨hx, hbb, hml, hown, hts⟩, hE, hA⟩ := C
  obtain ⟨q0, he, -⟩ := fl_at hb hq
  exact va_cald (tys := gTy g) hx hbb hE.1 hW.1 q0 1 he rfl hin hdg kk
theorem r_aald (C : CxG p s m args c cc nL own Ts g A) (hW : WdG g A s.heap H locs bs) {b : va_W} {n : Nat} {f : Nat → Option Nat} {x : Int32} {r : Nat} (i j : Nat) (hb : bs[i]? = some b) (hq : b[j]? = some (a, .inl (gR g, n, .inr (.inr (.inr (.inr f)))))) (hin : vp_in x n) (hr : f x.toNatClampNeg = some r) (hdg : decode cc pc = .ok (.aaload, 1))
    (kk : W p l e R s m args below meth c H locs cells slots Q (F0 m (pc + 1) ls (.ref r :: rest))) : W p l e R s m args below meth c H locs cells slots Q (F0 m pc ls (.int x :: .ref a :: rest)) := by
  obtain ⟨⟨hx, hbb, hml, hown, hts⟩, hE, hA⟩ := C
  obtain ⟨q0, he, -⟩ := fl_at hb hq
  refine va_aldq (tys := gTy g) (C := "RoadPaint$Road") hx hbb hE.1 hW.1 q0 2 he rfl hin hdg ?_
  rw [hr]
  exact kk
theorem r_iast (C : CxG p s m args c cc nL own Ts g A) (hW : WdG g A s.heap H locs bs) {b : va_W} {n : Nat} {f : Nat → Int32} {x y : Int32} (i j : Nat) (hb : bs[i]? = some b) (hq : b[j]? = some (a, .inl (gI g, n, .inl f))) (hin : vp_in x n) (hdg : decode cc pc = .ok (.iastore, 1)) (hbs : bs.set i (b.set j (a, .inl (gI g, n, .inl (upd f x.toNatClampNeg y)))) = bs')
    (kk : ∀ (H1 : Heap) (locs1 : List Loc), WdG g A s.heap H1 locs1 bs' → W p l e R s m args below meth c H1 locs1 cells slots Q (F0 m (pc + 1) ls rest)) : W p l e R s m args below meth c H locs cells slots Q (F0 m pc ls (.int y :: .int x :: .ref a :: rest)) := by
  obtain ⟨⟨hx, hbb, hml, hown, hts⟩, hE, hA⟩ := C
  obtain ⟨q0, he, hse⟩ := fl_at hb hq
  subst hbs
  refine va_iast (tys := gTy g) hx hbb hE.1 hW.1 hW.2.1 hW.2.2 q0 0 he rfl hin hdg (fun H1 locs1 hP hD hS => ?_)
  rw [hse] at hP hD
  exact kk H1 locs1 ⟨hP, hD, hS⟩
theorem r_cast (C : CxG p s m args c cc nL own Ts g A) (hW : WdG g A s.heap H locs bs) {b : va_W} {n : Nat} {f : Nat → Int32} {x y : Int32} (i j : Nat) (hb : bs[i]? = some b) (hq : b[j]? = some (a, .inl (gC g, n, .inl f))) (hin : vp_in x n) (hdg : decode cc pc = .ok (.castore, 1)) (hbs : bs.set i (b.set j (a, .inl (gC g, n, .inl (upd f x.toNatClampNeg (vp_nar .char y))))) = bs')
    (kk : ∀ (H1 : Heap) (locs1 : List Loc), WdG g A s.heap H1 locs1 bs' → W p l e R s m args below meth c H1 locs1 cells slots Q (F0 m (pc + 1) ls rest)) : W p l e R s m args below meth c H locs cells slots Q (F0 m pc ls (.int y :: .int x :: .ref a :: rest)) := by
  obtain ⟨⟨hx, hbb, hml, hown, hts⟩, hE, hA⟩ := C
  obtain ⟨q0, he, hse⟩ := fl_at hb hq
  subst hbs
  refine va_cast (tys := gTy g) hx hbb hE.1 hW.1 hW.2.1 hW.2.2 q0 1 he rfl hin hdg (fun H1 locs1 hP hD hS => ?_)
  rw [hse] at hP hD
  exact kk H1 locs1 ⟨hP, hD, hS⟩
theorem r_alen (C : CxG p s m args c cc nL own Ts g A) (hW : WdG g A s.heap H locs bs) {b : va_W} {n : Nat} {f : Nat → Int32} (i j : Nat) (hb : bs[i]? = some b) (hq : b[j]? = some (a, .inl (gI g, n, .inl f))) (hdg : decode cc pc = .ok (.arraylength, 1))
    (kk : W p l e R s m args below meth c H locs cells slots Q (F0 m (pc + 1) ls (.int (nI n) :: rest))) : W p l e R s m args below meth c H locs cells slots Q (F0 m pc ls (.ref a :: rest)) := by
  obtain ⟨⟨hx, hbb, hml, hown, hts⟩, hE, hA⟩ := C
  obtain ⟨q0, he, -⟩ := fl_at hb hq
  exact va_alen (tys := gTy g) hx hbb hE.1 hW.1 q0 0 he (ty := .int) rfl (v := nI n) rfl hdg kk
/-- System.arraycopy between two rows of ints -/
theorem r_copy (C : CxG p s m args c cc nL own Ts g A) (hW : WdG g A s.heap H locs bs) {b0 b1 : va_W} {n0 n1 index a0 : Nat} {f h : Nat → Int32} {sp dp n : Int32} (i0 j0 i1 j1 : Nat) (hb0 : bs[i0]? = some b0) (hq0 : b0[j0]? = some (a0, .inl (gI g, n0, .inl f))) (hb1 : bs[i1]? = some b1) (hq1 : b1[j1]? = some (a, .inl (gI g, n1, .inl h))) (hml : nL = ls.size) (hlink : Cond.methodLink own index arraycopyName ∈ Ts) (hnat : Cond.native arraycopyName ∈ Ts) (hstat : Cond.static arraycopyName ∈ Ts) (hini : Cond.initialized "java/lang/System" ∈ Ts)
    (h1 : ¬ sp < 0) (h2 : ¬ dp < 0) (h3 : ¬ n < 0) (h4 : sp.toNatClampNeg + n.toNatClampNeg ≤ n0) (h5 : dp.toNatClampNeg + n.toNatClampNeg ≤ n1) (hR : 1 ≤ R.frames ∧ (rest.map fun v => v.category).sum + (nativeFrameWords "java/lang/System" "arraycopy" 5 + 11) ≤ R.locals) (hdg : decode cc pc = .ok (.invokestatic index, 3)) (hbs : bs.set i1 (b1.set j1 (a, .inl (gI g, n1, .inl (va_cpy f h sp.toNatClampNeg dp.toNatClampNeg n.toNatClampNeg)))) = bs')
    (kk : ∀ (H1 : Heap) (locs1 : List Loc), WdG g A s.heap H1 locs1 bs' → W p l e R s m args below meth c H1 locs1 cells slots Q (F0 m (pc + 3) ls rest)) : W p l e R s m args below meth c H locs cells slots Q (F0 m pc ls (.int n :: .int dp :: .ref a :: .int sp :: .ref a0 :: rest)) := by
  obtain ⟨⟨hx, hbb, hmlc, hown, hts⟩, hE, hA⟩ := C
  obtain ⟨q0, he0, -⟩ := fl_at hb0 hq0
  obtain ⟨q1, he1, hse⟩ := fl_at hb1 hq1
  subst hbs
  refine va_copyi (tys := gTy g) (ty := .int) hx hbb (hmlc.trans hml) hown (hts _ hlink) (hts _ hnat) (hts _ hstat) (hts _ hini) hE.1 hW.1 hW.2.1 hW.2.2 q0 q1 0 0 he0 he1 rfl rfl rfl h1 h2 h3 h4 h5 (fun _ _ => rfl) hR.1 hR.2 hdg (fun H1 locs1 hP hD hS => ?_)
  rw [hse] at hP hD
  exact kk H1 locs1 ⟨hP, hD, hS⟩
/-! calls -/
variable {y : MethodName} {ws' ws'' : List Cond} {bytes : ByteArray} {maxL fr lo nA index n b ci N : Nat} {ret : Option FieldType} {As : List Value} {wc w1 : va_W} {K host : String} {r : Int32} {T : u_T} {fs : List Value} {is rs : List Nat}
/-- what a callee finds, virtual -/
theorem c_preV (C : CxG p s m args c cc nL own Ts g A) (hW : WdG g A s.heap H locs bs) (hn : bs.length = n) (hp : (is ++ rs).Perm (List.range n)) (hc : (pick bs is).flatten = wc) (hrc : wc[0]? = some (b, .inr (ci, fs))) (hcl : vwCl[ci]? = some (K, T, N)) : PreV s H K b (va_Pc (.ref b :: As) (PreC g wc H.size)) As := by
  obtain ⟨⟨hx, hbb, hmlc, hown, hts⟩, hE, hA⟩ := C
  refine ⟨PreC.blind, ?_, fun U hU hw => ⟨rfl, hW.pre hE hA hn hp hc hU hw⟩⟩
  subst hc
  have hPa : va_P (gD g) vwCl (pick bs is).flatten H := va_P_iff.mpr (fun q hq => va_P_iff.mp (hW.1.perm (pick_perm hn hp)) q (List.mem_append_left _ hq))
  exact va_recv hE.1 hPa hcl hrc
theorem c_preS (C : CxG p s m args c cc nL own Ts g A) (hW : WdG g A s.heap H locs bs) (hn : bs.length = n) (hp : (is ++ rs).Perm (List.range n)) (hc : (pick bs is).flatten = wc) : PreS s H (va_Pc As (PreC g wc H.size)) As := by
  obtain ⟨⟨hx, hbb, hmlc, hown, hts⟩, hE, hA⟩ := C
  exact ⟨PreC.blind, fun U hU hw => ⟨rfl, hW.pre hE hA hn hp hc hU hw⟩⟩
/-- behind an int call -/
theorem c_endi (C : CxG p s m args c cc nL own Ts g A) (hW : WdG g A s.heap H locs bs) (hn : bs.length = n) (hn' : bs'.length = n) (hp : (is ++ rs).Perm (List.range n)) (hc : (pick bs is).flatten = wc) (hc' : (pick bs' is).flatten = w1) (hr : pick bs' rs = pick bs rs) {av : Array Value}
    (hrun : va_Run p l e R s m args below meth c H locs cells slots 0 0 (F0 m pc ls st0) rest (va_Qi (fun (r' : Int32) (_ : Unit) => r' = r) (fun _ => PostC g wc H.size w1) (va_A wc H.size) av) (va_A wc H.size))
    (kk : ∀ (H1 : Heap) (locs1 : List Loc), WdG g A s.heap H1 locs1 bs' → W p l e R s m args below meth c H1 locs1 cells slots Q (F0 m (pc + 3) ls (.int r :: rest))) : W p l e R s m args below meth c H locs cells slots Q (F0 m pc ls st0) := by
  have hF := hW.free C.2.2 hn hp hc
  refine va_calli hrun hW.2.2 (fun q _ h => hF q h) hF (fun r1 u t H1 locs1 ht hvm hpo hB hz hk hS => ?_)
  subst hpo
  subst ht
  exact kk _ _ (hW.call C.2.2 hn hn' hp hc hc' hr hB.1 hB.2 hk hS)
theorem c_endv (C : CxG p s m args c cc nL own Ts g A) (hW : WdG g A s.heap H locs bs) (hn : bs.length = n) (hn' : bs'.length = n) (hp : (is ++ rs).Perm (List.range n)) (hc : (pick bs is).flatten = wc) (hc' : (pick bs' is).flatten = w1) (hr : pick bs' rs = pick bs rs) {av : Array Value}
    (hrun : va_Run p l e R s m args below meth c H locs cells slots 0 0 (F0 m pc ls st0) rest (va_Qv (fun (_ : Unit) => True) (fun _ => PostC g wc H.size w1) (va_A wc H.size) av) (va_A wc H.size))
    (kk : ∀ (H1 : Heap) (locs1 : List Loc), WdG g A s.heap H1 locs1 bs' → W p l e R s m args below meth c H1 locs1 cells slots Q (F0 m (pc + 3) ls rest)) : W p l e R s m args below meth c H locs cells slots Q (F0 m pc ls st0) := by
  have hF := hW.free C.2.2 hn hp hc
  refine va_callv hrun hW.2.2 (fun q _ h => hF q h) hF (fun u t H1 locs1 ht hvm hpo hB hz hk hS => ?_)
  subst ht
  exact kk _ _ (hW.call C.2.2 hn hn' hp hc hc' hr hB.1 hB.2 hk hS)
theorem c_endr (C : CxG p s m args c cc nL own Ts g A) (hW : WdG g A s.heap H locs bs) (hn : bs.length = n) (hn' : bs'.length = n) (hp : (is ++ rs).Perm (List.range n)) (hc : (pick bs is).flatten = wc) (hc' : (pick bs' is).flatten = w1) (hr : pick bs' rs = pick bs rs) {av : Array Value} {ra : Nat}
    (hrun : va_Run p l e R s m args below meth c H locs cells slots 0 0 (F0 m pc ls st0) rest (va_Qr (fun (_ : Unit) => True) (fun _ a t => a = ra ∧ PostC g wc H.size w1 t) (va_A wc H.size) av) (va_A wc H.size))
    (kk : ∀ (H1 : Heap) (locs1 : List Loc), WdG g A s.heap H1 locs1 bs' → W p l e R s m args below meth c H1 locs1 cells slots Q (F0 m (pc + 3) ls (.ref ra :: rest))) : W p l e R s m args below meth c H locs cells slots Q (F0 m pc ls st0) := by
  have hF := hW.free C.2.2 hn hp hc
  refine va_callr hrun hW.2.2 (fun q _ h => hF q h) hF (fun u a1 t H1 locs1 ht hvm hpo hB hz hk hS => ?_)
  obtain ⟨rfl, hB⟩ := hB
  subst ht
  exact kk _ _ (hW.call C.2.2 hn hn' hp hc hc' hr hB.1 hB.2 hk hS)
abbrev wordsOk (y : MethodName) (nA : Nat) : Prop := y.cls ≠ "java/lang/invoke/MethodHandle" ∧ y.cls ≠ "java/lang/invoke/VarHandle" ∧ (parseMethodDescriptor y.desc).map (fun d => d.parameters.length) = some nA
/-- a virtual call with an int's answer -/
theorem r_cVi (C : CxG p s m args c cc nL own Ts g A) (hW : WdG g A s.heap H locs bs) (hM : CI l y ws' fr lo g (.ref b :: As) wc r w1) (hG : GoodIn Ts (wsV own index K y ws')) (hw : ws' = Cond.code y bytes maxL ret :: ws'') (hd : y.cls = K ∧ wordsOk y nA) (hR : fr + 1 ≤ R.frames ∧ 8 + (maxL + 11) + lo ≤ R.locals) (hrc : wc[0]? = some (b, .inr (ci, fs))) (hcl : vwCl[ci]? = some (K, T, N)) (hlen : As.length = nA) (hst : st0 = As.reverse ++ .ref b :: rest) (hsz : ls.size = nL) (hcat : (rest.map fun v => v.category).sum ≤ 8) (hcs : cells ≤ R.cells ∧ slots ≤ R.slots) (hdg : decode cc pc = .ok (.invokevirtual index, 3))
    (hn : bs.length = n) (hn' : bs'.length = n) (hp : (is ++ rs).Perm (List.range n)) (hc : (pick bs is).flatten = wc) (hc' : (pick bs' is).flatten = w1) (hr : pick bs' rs = pick bs rs)
    (kk : ∀ (H1 : Heap) (locs1 : List Loc), WdG g A s.heap H1 locs1 bs' → W p l e R s m args below meth c H1 locs1 cells slots Q (F0 m (pc + 3) ls (.int r :: rest))) : W p l e R s m args below meth c H locs cells slots Q (F0 m pc ls st0) :=
  c_endi C hW hn hn' hp hc hc' hr (va_runV C.1 (hM H.size) (cwV nA C.1.2.2.2.2 hG hw rfl rfl hd hR) (c_preV C hW hn hp hc hrc hcl) rfl hlen hsz hst (lv_room hcat) hdg hcs) kk
theorem r_cVv (C : CxG p s m args c cc nL own Ts g A) (hW : WdG g A s.heap H locs bs) (hM : CV l y ws' fr lo g (.ref b :: As) wc w1) (hG : GoodIn Ts (wsV own index K y ws')) (hw : ws' = Cond.code y bytes maxL ret :: ws'') (hd : y.cls = K ∧ wordsOk y nA) (hR : fr + 1 ≤ R.frames ∧ 8 + (maxL + 11) + lo ≤ R.locals) (hrc : wc[0]? = some (b, .inr (ci, fs))) (hcl : vwCl[ci]? = some (K, T, N)) (hlen : As.length = nA) (hst : st0 = As.reverse ++ .ref b :: rest) (hsz : ls.size = nL) (hcat : (rest.map fun v => v.category).sum ≤ 8) (hcs : cells ≤ R.cells ∧ slots ≤ R.slots) (hdg : decode cc pc = .ok (.invokevirtual index, 3))
    (hn : bs.length = n) (hn' : bs'.length = n) (hp : (is ++ rs).Perm (List.range n)) (hc : (pick bs is).flatten = wc) (hc' : (pick bs' is).flatten = w1) (hr : pick bs' rs = pick bs rs)
    (kk : ∀ (H1 : Heap) (locs1 : List Loc), WdG g A s.heap H1 locs1 bs' → W p l e R s m args below meth c H1 locs1 cells slots Q (F0 m (pc + 3) ls rest)) : W p l e R s m args below meth c H locs cells slots Q (F0 m pc ls st0) :=
  c_endv C hW hn hn' hp hc hc' hr (va_runV C.1 (hM H.size) (cwV nA C.1.2.2.2.2 hG hw rfl rfl hd hR) (c_preV C hW hn hp hc hrc hcl) rfl hlen hsz hst (lv_room hcat) hdg hcs) kk
theorem r_cVr (C : CxG p s m args c cc nL own Ts g A) (hW : WdG g A s.heap H locs bs) {ra : Nat} (hM : CR l y ws' fr lo g (.ref b :: As) wc ra w1) (hG : GoodIn Ts (wsV own index K y ws')) (hw : ws' = Cond.code y bytes maxL ret :: ws'') (hd : y.cls = K ∧ wordsOk y nA) (hR : fr + 1 ≤ R.frames ∧ 8 + (maxL + 11) + lo ≤ R.locals) (hrc : wc[0]? = some (b, .inr (ci, fs))) (hcl : vwCl[ci]? = some (K, T, N)) (hlen : As.length = nA) (hst : st0 = As.reverse ++ .ref b :: rest) (hsz : ls.size = nL) (hcat : (rest.map fun v => v.category).sum ≤ 8) (hcs : cells ≤ R.cells ∧ slots ≤ R.slots) (hdg : decode cc pc = .ok (.invokevirtual index, 3))
    (hn : bs.length = n) (hn' : bs'.length = n) (hp : (is ++ rs).Perm (List.range n)) (hc : (pick bs is).flatten = wc) (hc' : (pick bs' is).flatten = w1) (hr : pick bs' rs = pick bs rs)
    (kk : ∀ (H1 : Heap) (locs1 : List Loc), WdG g A s.heap H1 locs1 bs' → W p l e R s m args below meth c H1 locs1 cells slots Q (F0 m (pc + 3) ls (.ref ra :: rest))) : W p l e R s m args below meth c H locs cells slots Q (F0 m pc ls st0) :=
  c_endr C hW hn hn' hp hc hc' hr (va_runV C.1 (hM H.size) (cwV nA C.1.2.2.2.2 hG hw rfl rfl hd hR) (c_preV C hW hn hp hc hrc hcl) rfl hlen hsz hst (lv_room hcat) hdg hcs) kk
/-- a static call with an int's answer -/
theorem r_cSi (C : CxG p s m args c cc nL own Ts g A) (hW : WdG g A s.heap H locs bs) (hM : CI l y ws' fr lo g As wc r w1) (hG : GoodIn Ts (va_wsS own index y ws')) (hw : ws' = Cond.code y bytes maxL ret :: ws'') (hd : wordsOk y nA) (hR : fr + 1 ≤ R.frames ∧ 8 + (maxL + 11) + lo ≤ R.locals) (hlen : As.length = nA) (hst : st0 = As.reverse ++ rest) (hsz : ls.size = nL) (hcat : (rest.map fun v => v.category).sum ≤ 8) (hcs : cells ≤ R.cells ∧ slots ≤ R.slots) (hdg : decode cc pc = .ok (.invokestatic index, 3))
    (hn : bs.length = n) (hn' : bs'.length = n) (hp : (is ++ rs).Perm (List.range n)) (hc : (pick bs is).flatten = wc) (hc' : (pick bs' is).flatten = w1) (hr : pick bs' rs = pick bs rs)
    (kk : ∀ (H1 : Heap) (locs1 : List Loc), WdG g A s.heap H1 locs1 bs' → W p l e R s m args below meth c H1 locs1 cells slots Q (F0 m (pc + 3) ls (.int r :: rest))) : W p l e R s m args below meth c H locs cells slots Q (F0 m pc ls st0) :=
  c_endi C hW hn hn' hp hc hc' hr (va_runS C.1 (hM H.size) (va_cwS nA C.1.2.2.2.2 hG hw rfl rfl hd hR) (c_preS C hW hn hp hc) rfl hlen hsz hst (lv_room hcat) hdg hcs) kk
theorem r_cSr (C : CxG p s m args c cc nL own Ts g A) (hW : WdG g A s.heap H locs bs) {ra : Nat} (hM : CR l y ws' fr lo g As wc ra w1) (hG : GoodIn Ts (va_wsS own index y ws')) (hw : ws' = Cond.code y bytes maxL ret :: ws'') (hd : wordsOk y nA) (hR : fr + 1 ≤ R.frames ∧ 8 + (maxL + 11) + lo ≤ R.locals) (hlen : As.length = nA) (hst : st0 = As.reverse ++ rest) (hsz : ls.size = nL) (hcat : (rest.map fun v => v.category).sum ≤ 8) (hcs : cells ≤ R.cells ∧ slots ≤ R.slots) (hdg : decode cc pc = .ok (.invokestatic index, 3))
    (hn : bs.length = n) (hn' : bs'.length = n) (hp : (is ++ rs).Perm (List.range n)) (hc : (pick bs is).flatten = wc) (hc' : (pick bs' is).flatten = w1) (hr : pick bs' rs = pick bs rs)
    (kk : ∀ (H1 : Heap) (locs1 : List Loc), WdG g A s.heap H1 locs1 bs' → W p l e R s m args below meth c H1 locs1 cells slots Q (F0 m (pc + 3) ls (.ref ra :: rest))) : W p l e R s m args below meth c H locs cells slots Q (F0 m pc ls st0) :=
  c_endr C hW hn hn' hp hc hc' hr (va_runS C.1 (hM H.size) (va_cwS nA C.1.2.2.2.2 hG hw rfl rfl hd hR) (c_preS C hW hn hp hc) rfl hlen hsz hst (lv_room hcat) hdg hcs) kk
/-- a static call of a nest mate's private method -/
theorem r_cNi (C : CxG p s m args c cc nL own Ts g A) (hW : WdG g A s.heap H locs bs) (hM : CI l y ws' fr lo g As wc r w1) (hG : GoodIn Ts ws') (hw : ws' = Cond.code y bytes maxL ret :: ws'') (hl : Cond.methodLinkNest own index y host ∈ gNest) (hini : Cond.initialized y.cls ∈ Ts) (hsta : Cond.static y ∈ Ts) (hd : wordsOk y nA) (hR : fr + 1 ≤ R.frames ∧ 8 + (maxL + 11) + lo ≤ R.locals) (hlen : As.length = nA) (hst : st0 = As.reverse ++ rest) (hsz : ls.size = nL) (hcat : (rest.map fun v => v.category).sum ≤ 8) (hcs : cells ≤ R.cells ∧ slots ≤ R.slots) (hdg : decode cc pc = .ok (.invokestatic index, 3))
    (hn : bs.length = n) (hn' : bs'.length = n) (hp : (is ++ rs).Perm (List.range n)) (hc : (pick bs is).flatten = wc) (hc' : (pick bs' is).flatten = w1) (hr : pick bs' rs = pick bs rs)
    (kk : ∀ (H1 : Heap) (locs1 : List Loc), WdG g A s.heap H1 locs1 bs' → W p l e R s m args below meth c H1 locs1 cells slots Q (F0 m (pc + 3) ls (.int r :: rest))) : W p l e R s m args below meth c H locs cells slots Q (F0 m pc ls st0) :=
  c_endi C hW hn hn' hp hc hc' hr (va_runSN C.1 (hM H.size) ⟨va_cnB nA C.1.2.2.2.2 hG hw rfl rfl (C.2.1.2.1 _ hl) (C.1.2.2.2.2 _ hini) hd hR, C.1.2.2.2.2 _ hsta, trivial⟩ (c_preS C hW hn hp hc) rfl hlen hsz hst (lv_room hcat) hdg hcs) kk
/-! java.lang.Math -/
theorem r_max (C : CxG p s m args c cc nL own Ts g A) (hsz : ls.size = nL) {x z : Int32} (hlink : Cond.methodLink own index Lib.Math.max.name ∈ Ts) (hstat : Cond.static Lib.Math.max.name ∈ Ts) (hini : Cond.initialized "java/lang/Math" ∈ Ts) (hcode : Cond.code Lib.Math.max.name Lib.Math.max.code 2 (some .int) ∈ Ts) (hR : 1 ≤ R.frames ∧ (rest.map fun v => v.category).sum + 13 ≤ R.locals) (hcs : cells ≤ R.cells ∧ slots ≤ R.slots) (hdg : decode cc pc = .ok (.invokestatic index, 3))
    (kk : W p l e R s m args below meth c H locs cells slots Q (F0 m (pc + 3) ls (.int (if x < z then z else x) :: rest))) : W p l e R s m args below meth c H locs cells slots Q (F0 m pc ls (.int z :: .int x :: rest)) :=
  va_mmax C.1.1 C.1.2.1 (C.1.2.2.1.trans hsz.symm) C.1.2.2.2.1 (C.1.2.2.2.2 _ hlink) (C.1.2.2.2.2 _ hstat) (C.1.2.2.2.2 _ hini) (C.1.2.2.2.2 _ hcode) hR.1 hR.2 hcs.1 hcs.2 hdg kk
theorem r_min (C : CxG p s m args c cc nL own Ts g A) (hsz : ls.size = nL) {x z : Int32} (hlink : Cond.methodLink own index Lib.Math.min.name ∈ Ts) (hstat : Cond.static Lib.Math.min.name ∈ Ts) (hini : Cond.initialized "java/lang/Math" ∈ Ts) (hcode : Cond.code Lib.Math.min.name Lib.Math.min.code 2 (some .int) ∈ Ts) (hR : 1 ≤ R.frames ∧ (rest.map fun v => v.category).sum + 13 ≤ R.locals) (hcs : cells ≤ R.cells ∧ slots ≤ R.slots) (hdg : decode cc pc = .ok (.invokestatic index, 3))
    (kk : W p l e R s m args below meth c H locs cells slots Q (F0 m (pc + 3) ls (.int (if z < x then z else x) :: rest))) : W p l e R s m args below meth c H locs cells slots Q (F0 m pc ls (.int z :: .int x :: rest)) :=
  va_mmin C.1.1 C.1.2.1 (C.1.2.2.1.trans hsz.symm) C.1.2.2.2.1 (C.1.2.2.2.2 _ hlink) (C.1.2.2.2.2 _ hstat) (C.1.2.2.2.2 _ hini) (C.1.2.2.2.2 _ hcode) hR.1 hR.2 hcs.1 hcs.2 hdg kk
theorem r_abs (C : CxG p s m args c cc nL own Ts g A) (hsz : ls.size = nL) {x : Int32} (hlink : Cond.methodLink own index Lib.Math.abs.name ∈ Ts) (hstat : Cond.static Lib.Math.abs.name ∈ Ts) (hini : Cond.initialized "java/lang/Math" ∈ Ts) (hcode : Cond.code Lib.Math.abs.name Lib.Math.abs.code 1 (some .int) ∈ Ts) (hR : 1 ≤ R.frames ∧ (rest.map fun v => v.category).sum + 13 ≤ R.locals) (hcs : cells ≤ R.cells ∧ slots ≤ R.slots) (hdg : decode cc pc = .ok (.invokestatic index, 3))
    (kk : W p l e R s m args below meth c H locs cells slots Q (F0 m (pc + 3) ls (.int (if 0 ≤ x then x else 0 - x) :: rest))) : W p l e R s m args below meth c H locs cells slots Q (F0 m pc ls (.int x :: rest)) :=
  va_mabs C.1.1 C.1.2.1 (C.1.2.2.1.trans hsz.symm) C.1.2.2.2.1 (C.1.2.2.2.2 _ hlink) (C.1.2.2.2.2 _ hstat) (C.1.2.2.2.2 _ hini) (C.1.2.2.2.2 _ hcode) hR.1 hR.2 hcs.1 hcs.2 hdg kk
/-! ends -/
theorem r_iret {av : List Value} {W0 : va_W} (C : CxG p s m av.toArray c cc nL own Ts g (va_A W0 s.heap.size)) (hW : WdG g (va_A W0 s.heap.size) s.heap H locs bs) {ty : FieldType} (hr : meth.sig.returnType = some ty) (hlocks : meth.locks = false) {v : Int32} (hn : narrow ty (.int v) = .int v) (hw : bs.flatten = w1) (hv : v = r) (hdg : decode cc pc = .ok (.ireturn, 1)) :
    W p l e R s m av.toArray below meth c H locs cells slots (MQ below (va_Qi (fun (r' : Int32) (_ : Unit) => r' = r) (fun _ => PostC g W0 s.heap.size w1) (va_A W0 s.heap.size)) av.toArray s cells slots (va_A W0 s.heap.size)) (F0 m pc ls [.int v]) := by
  subst hw
  exact W.zret C.1.1 C.1.2.1 hr hn (fun t ht hw => ⟨⟨v, (), rfl, hv, by rw [ht]; exact hW.1, hW.2.1⟩, hW.2.2.F ht⟩) hW.2.2.2.2 hdg hlocks
theorem r_vret {av : List Value} {W0 : va_W} (C : CxG p s m av.toArray c cc nL own Ts g (va_A W0 s.heap.size)) (hW : WdG g (va_A W0 s.heap.size) s.heap H locs bs) (hr : meth.sig.returnType = none) (hlocks : meth.locks = false) (hw : bs.flatten = w1) (hdg : decode cc pc = .ok (.return_, 1)) :
    W p l e R s m av.toArray below meth c H locs cells slots (MQ below (va_Qv (fun (_ : Unit) => True) (fun _ => PostC g W0 s.heap.size w1) (va_A W0 s.heap.size)) av.toArray s cells slots (va_A W0 s.heap.size)) (F0 m pc ls []) := by
  subst hw
  exact W.vret C.1.1 C.1.2.1 hr (fun t ht hw => ⟨⟨(), rfl, trivial, by rw [ht]; exact hW.1, hW.2.1⟩, hW.2.2.F ht⟩) hW.2.2.2.2 hdg hlocks
theorem r_aret {av : List Value} {W0 : va_W} (C : CxG p s m av.toArray c cc nL own Ts g (va_A W0 s.heap.size)) (hW : WdG g (va_A W0 s.heap.size) s.heap H locs bs) {nm : String} (hr : meth.sig.returnType = some (.object nm)) (hlocks : meth.locks = false) {v ra : Nat} (hw : bs.flatten = w1) (hv : v = ra) (hdg : decode cc pc = .ok (.areturn, 1)) :
    W p l e R s m av.toArray below meth c H locs cells slots (MQ below (va_Qr (fun (_ : Unit) => True) (fun _ a t => a = ra ∧ PostC g W0 s.heap.size w1 t) (va_A W0 s.heap.size)) av.toArray s cells slots (va_A W0 s.heap.size)) (F0 m pc ls [.ref v]) := by
  subst hw
  exact W.aret C.1.1 C.1.2.1 hr (Or.inl ⟨_, rfl⟩) (Or.inr ⟨_, rfl⟩) (fun t ht hw => ⟨⟨(), v, rfl, trivial, hv, by rw [ht]; exact hW.1, hW.2.1⟩, hW.2.2.F ht⟩) hW.2.2.2.2 hdg hlocks
end RP
/-! beginnings: from a contract to a walk; the answer, the room and the places stay abstract -/
def EndI (p : Program) (l : Launch) (e : Env) (R : Room) (s : State) (m : MethodId) (args : Array Value) (below : List Frame) (meth : Method) (c : Code) (cc : ByteArray) (g : GG) (Z : Nat → Prop) (Q : State → Prop) (ty : FieldType) (r : Int32) (W1 : va_W) : Prop := ∀ (H : Heap) (locs : List Loc) (ls : Array Slot) (pc : Nat) (bs : List va_W), WdG g Z s.heap H locs bs → bs.flatten = W1 → narrow ty (.int r) = .int r → decode cc pc = .ok (.ireturn, 1) → W p l e R s m args below meth c H locs 0 0 Q (F0 m pc ls [.int r])
def EndV (p : Program) (l : Launch) (e : Env) (R : Room) (s : State) (m : MethodId) (args : Array Value) (below : List Frame) (meth : Method) (c : Code) (cc : ByteArray) (g : GG) (Z : Nat → Prop) (Q : State → Prop) (W1 : va_W) : Prop := ∀ (H : Heap) (locs : List Loc) (ls : Array Slot) (pc : Nat) (bs : List va_W), WdG g Z s.heap H locs bs → bs.flatten = W1 → decode cc pc = .ok (.return_, 1) → W p l e R s m args below meth c H locs 0 0 Q (F0 m pc ls [])
def EndR (p : Program) (l : Launch) (e : Env) (R : Room) (s : State) (m : MethodId) (args : Array Value) (below : List Frame) (meth : Method) (c : Code) (cc : ByteArray) (g : GG) (Z : Nat → Prop) (Q : State → Prop) (r : Nat) (W1 : va_W) : Prop := ∀ (H : Heap) (locs : List Loc) (ls : Array Slot) (pc : Nat) (bs : List va_W), WdG g Z s.heap H locs bs → bs.flatten = W1 → decode cc pc = .ok (.areturn, 1) → W p l e R s m args below meth c H locs 0 0 Q (F0 m pc ls [.ref r])
theorem rmk {R : Room} {fr lo a b : Nat} (h : R.frames = fr ∧ R.locals = lo) (h1 : Nat.ble a fr = true) (h2 : Nat.ble b lo = true) : a ≤ R.frames ∧ b ≤ R.locals := ⟨by rw [h.1]; exact Nat.le_of_ble_eq_true h1, by rw [h.2]; exact Nat.le_of_ble_eq_true h2⟩
theorem rz {R : Room} : 0 ≤ R.cells ∧ 0 ≤ R.slots := ⟨Nat.zero_le _, Nat.zero_le _⟩
theorem CI.mk {l : Launch} {y : MethodName} {ws ws' : List Cond} {fr lo : Nat} {g : GG} {av : List Value} {W0 W1 : va_W} {r : Int32} {cc : ByteArray} {nL : Nat} {ty : FieldType} {own : String} (hy : plainName y.cls = true) (hw : ws = Cond.code y cc nL (some ty) :: ws') (ho : y.cls = own) (hsl : (lg_sl av).length ≤ nL)
    (body : ∀ (p : Program) (e : Env) (R : Room) (s : State) (m : MethodId) (args : Array Value) (below : List Frame) (meth : Method) (c : Code) (Z : Nat → Prop) (Q : State → Prop), CxG p s m args c cc nL own ws g Z → EndI p l e R s m args below meth c cc g Z Q ty r W1 → (R.frames = fr ∧ R.locals = lo) → ∀ (H : Heap), WdG g Z s.heap H [] [W0] → ∀ ls : Array Slot, lv_has ls nL (lv_args 0 av) →
      W p l e R s m args below meth c H [] 0 0 Q (F0 m 0 ls [])) : CI l y ws fr lo g av W0 r W1 := by
  intro sz
  refine Met.ofW (cc := cc) (maxL := nL) (ret := some ty) hy hw ?_
  intro p e s m args below meth c s₁ B hml hv
  obtain ⟨rfl, hsz, hP, hD, hE⟩ := hv
  subst hsz
  have hown : s.vm.findClass own = some m.cls := by rw [← ho]; exact findClass_of_methodNamed B.named
  have C : CxG p s m av.toArray c cc nL own ws g (va_A W0 s.heap.size) := ⟨⟨B.exec, B.bytes, hml, hown, atoms_spec (ws := ws) B.pre⟩, hE, fun q h => Or.inr h⟩
  rw [lg_entry_eq]
  refine body p e _ s m _ below meth c (va_A W0 s.heap.size) _ C ?_ ⟨rfl, rfl⟩ s.heap ⟨by rw [List.flatten_cons, List.flatten_nil, List.append_nil]; exact hP, by rw [List.flatten_cons, List.flatten_nil, List.append_nil]; exact hD.self, va_S.rf⟩ _ (lv_entry av hsl)
  intro H locs ls pc bs hW hf hn hdg
  exact r_iret C hW B.returns B.notSynchronized hn hf rfl hdg
theorem CV.mk {l : Launch} {y : MethodName} {ws ws' : List Cond} {fr lo : Nat} {g : GG} {av : List Value} {W0 W1 : va_W} {cc : ByteArray} {nL : Nat} {own : String} (hy : plainName y.cls = true) (hw : ws = Cond.code y cc nL none :: ws') (ho : y.cls = own) (hsl : (lg_sl av).length ≤ nL)
    (body : ∀ (p : Program) (e : Env) (R : Room) (s : State) (m : MethodId) (args : Array Value) (below : List Frame) (meth : Method) (c : Code) (Z : Nat → Prop) (Q : State → Prop), CxG p s m args c cc nL own ws g Z → EndV p l e R s m args below meth c cc g Z Q W1 → (R.frames = fr ∧ R.locals = lo) → ∀ (H : Heap), WdG g Z s.heap H [] [W0] → ∀ ls : Array Slot, lv_has ls nL (lv_args 0 av) →
      W p l e R s m args below meth c H [] 0 0 Q (F0 m 0 ls [])) : CV l y ws fr lo g av W0 W1 := by
  intro sz
  refine Met.ofW (cc := cc) (maxL := nL) (ret := none) hy hw ?_
  intro p e s m args below meth c s₁ B hml hv
  obtain ⟨rfl, hsz, hP, hD, hE⟩ := hv
  subst hsz
  have hown : s.vm.findClass own = some m.cls := by rw [← ho]; exact findClass_of_methodNamed B.named
  have C : CxG p s m av.toArray c cc nL own ws g (va_A W0 s.heap.size) := ⟨⟨B.exec, B.bytes, hml, hown, atoms_spec (ws := ws) B.pre⟩, hE, fun q h => Or.inr h⟩
  rw [lg_entry_eq]
  refine body p e _ s m _ below meth c (va_A W0 s.heap.size) _ C ?_ ⟨rfl, rfl⟩ s.heap ⟨by rw [List.flatten_cons, List.flatten_nil, List.append_nil]; exact hP, by rw [List.flatten_cons, List.flatten_nil, List.append_nil]; exact hD.self, va_S.rf⟩ _ (lv_entry av hsl)
  intro H locs ls pc bs hW hf hdg
  exact r_vret C hW B.returns B.notSynchronized hf hdg
theorem CR.mk {l : Launch} {y : MethodName} {ws ws' : List Cond} {fr lo : Nat} {g : GG} {av : List Value} {W0 W1 : va_W} {r : Nat} {cc : ByteArray} {nL : Nat} {nm : String} {own : String} (hy : plainName y.cls = true) (hw : ws = Cond.code y cc nL (some (.object nm)) :: ws') (ho : y.cls = own) (hsl : (lg_sl av).length ≤ nL)
    (body : ∀ (p : Program) (e : Env) (R : Room) (s : State) (m : MethodId) (args : Array Value) (below : List Frame) (meth : Method) (c : Code) (Z : Nat → Prop) (Q : State → Prop), CxG p s m args c cc nL own ws g Z → EndR p l e R s m args below meth c cc g Z Q r W1 → (R.frames = fr ∧ R.locals = lo) → ∀ (H : Heap), WdG g Z s.heap H [] [W0] → ∀ ls : Array Slot, lv_has ls nL (lv_args 0 av) →
      W p l e R s m args below meth c H [] 0 0 Q (F0 m 0 ls [])) : CR l y ws fr lo g av W0 r W1 := by
  intro sz
  refine Met.ofW (cc := cc) (maxL := nL) (ret := some (.object nm)) hy hw ?_
  intro p e s m args below meth c s₁ B hml hv
  obtain ⟨rfl, hsz, hP, hD, hE⟩ := hv
  subst hsz
  have hown : s.vm.findClass own = some m.cls := by rw [← ho]; exact findClass_of_methodNamed B.named
  have C : CxG p s m av.toArray c cc nL own ws g (va_A W0 s.heap.size) := ⟨⟨B.exec, B.bytes, hml, hown, atoms_spec (ws := ws) B.pre⟩, hE, fun q h => Or.inr h⟩
  rw [lg_entry_eq]
  refine body p e _ s m _ below meth c (va_A W0 s.heap.size) _ C ?_ ⟨rfl, rfl⟩ s.heap ⟨by rw [List.flatten_cons, List.flatten_nil, List.append_nil]; exact hP, by rw [List.flatten_cons, List.flatten_nil, List.append_nil]; exact hD.self, va_S.rf⟩ _ (lv_entry av hsl)
  intro H locs ls pc bs hW hf hdg
  exact r_aret C hW B.returns B.notSynchronized hf rfl hdg
/-! switches -/
theorem sw_ne {x v : Int32} {a o d t : Int} {r : List (Int × Int)} (c : ¬ x = v) (hv : v.toInt = a) (ht : Op.lookupswitch.offset r d x.toInt = t) : Op.lookupswitch.offset ((a, o) :: r) d x.toInt = t := by
  have h : ¬ a = x.toInt := fun h => c (Int32.toInt_inj.mp (h.symm.trans hv.symm))
  show (if a = x.toInt then o else Op.lookupswitch.offset r d x.toInt) = t
  rw [if_neg h]; exact ht
theorem sw_eq {x v : Int32} {a o d : Int} {r : List (Int × Int)} (c : x = v) (hv : v.toInt = a) : Op.lookupswitch.offset ((a, o) :: r) d x.toInt = o := by
  subst c
  show (if a = x.toInt then o else Op.lookupswitch.offset r d x.toInt) = o
  rw [if_pos hv.symm]
theorem tb_in {x v : Int32} (c : x = v) {lo hi : Int} {offs : Array Int} {off : Int} (h : (¬ v.toInt < lo) ∧ (¬ hi < v.toInt) ∧ offs[(v.toInt - lo).toNat]? = some off) : (¬ x.toInt < lo) ∧ (¬ hi < x.toInt) ∧ offs[(x.toInt - lo).toNat]? = some off := by
  subst c; exact h
theorem tb_lo {x v : Int32} {lo hi : Int} (c : x < v) (hv : v.toInt = lo) : x.toInt < lo ∨ hi < x.toInt := Or.inl (by rw [← hv]; exact Int32.lt_iff_toInt_lt.mp c)
theorem tb_hi {x v : Int32} {lo hi : Int} (c : v < x) (hv : v.toInt = hi) : x.toInt < lo ∨ hi < x.toInt := Or.inr (by rw [← hv]; exact Int32.lt_iff_toInt_lt.mp c)
/-- other blocks of the same world -/
theorem WdG.re {g : GG} {A : Nat → Prop} {H0 H : Heap} {locs : List Loc} {bs bs' : List va_W} (h : WdG g A H0 H locs bs) (e : bs.flatten = bs'.flatten) : WdG g A H0 H locs bs' := by
  obtain ⟨hP, hD, hS⟩ := h
  rw [e] at hP hD
  exact ⟨hP, hD, hS⟩
/-! the pure side: safe steps -/
theorem q_if {α : Type} {c : Prop} [Decidable c] {X Y : Option α} {r : α} (h : (if c then X else Y) = some r) : (c ∧ X = some r) ∨ (¬ c ∧ Y = some r) := by
  by_cases hc : c
  · rw [if_pos hc] at h; exact Or.inl ⟨hc, h⟩
  · rw [if_neg hc] at h; exact Or.inr ⟨hc, h⟩
theorem q_t {α : Type} {c : Prop} {X Y Z : α} (hc : c) [Decidable c] (h : (if c then X else Y) = Z) : X = Z := by rw [if_pos hc] at h; exact h
theorem q_f {α : Type} {c : Prop} {X Y Z : α} (hc : ¬ c) [Decidable c] (h : (if c then X else Y) = Z) : Y = Z := by rw [if_neg hc] at h; exact h
/-- a guard: the walk goes on only where it holds not -/
theorem q_g {α : Type} {c : Prop} [Decidable c] {X : Option α} {r : α} (h : (if c then none else X) = some r) : ¬ c ∧ X = some r := by
  by_cases hc : c
  · rw [if_pos hc] at h; cases h
  · rw [if_neg hc] at h; exact ⟨hc, h⟩
theorem q_b {α β : Type} {o : Option α} {f : α → Option β} {r : β} (h : o.bind f = some r) : ∃ a, o = some a ∧ f a = some r := Option.bind_eq_some_iff.mp h
/-- a loop with fuel -/
def lpN {α β : Type} (body : (α → Option β) → α → Option β) : Nat → α → Option β
  | 0 => fun _ => none
  | n + 1 => fun a => body (lpN body n) a
