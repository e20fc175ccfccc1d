/-! constructors: rows that make cells, contracts whose world grows -/
def EndN (p : Program) (l : Launch) (e : Env) (R : Room) (s : State) (m : MethodId) (args : Array Value) (below : List Frame) (meth : Method) (c : Code) (cc : ByteArray) (g : GG) (Z : Nat → Prop) (Q : State → Prop) (mc ms : Nat) (W1 : va_W → Prop) : Prop := ∀ (H : Heap) (locs : List Loc) (ls : Array Slot) (pc : Nat) (bs : List va_W), WdG g Z s.heap H locs bs → W1 bs.flatten → decode cc pc = .ok (.return_, 1) → W p l e R s m args below meth c H locs mc ms Q (F0 m pc ls [])
theorem CN.mk {l : Launch} {y : MethodName} {ws ws' : List Cond} {fr lo mc ms : Nat} {g : GG} {av : List Value} {W0 : va_W} {W1 : va_W → Prop} {cc : ByteArray} {nL : Nat} {own : String} (hy : plainName y.cls = true) (hw : ws = Cond.code y cc nL none :: ws') (ho : y.cls = own) (hyi : y.name = "<init>") (hsl : (lg_sl av).length ≤ nL)
    (body : ∀ (p : Program) (e : Env) (R : Room) (s : State) (m : MethodId) (args : Array Value) (below : List Frame) (meth : Method) (c : Code) (Z : Nat → Prop) (Q : State → Prop), CxG p s m args c cc nL own ws g Z → EndN p l e R s m args below meth c cc g Z Q mc ms W1 → (R.frames = fr ∧ R.locals = lo) → (R.cells = mc ∧ R.slots = ms) → meth.name = "<init>" → ∀ (H : Heap), WdG g Z s.heap H [] [W0] → ∀ ls : Array Slot, lv_has ls nL (lv_args 0 av) →
      W p l e R s m args below meth c H [] 0 0 Q (F0 m 0 ls [])) : CN l y ws fr lo mc ms g av W0 W1 := by
  intro sz
  refine Met.ofW (cc := cc) (maxL := nL) (ret := none) hy hw ?_
  intro p e s m args below meth c s₁ B hml hv
  obtain ⟨rfl, hsz, hP, hD, hE⟩ := hv
  subst hsz
  have hown : s.vm.findClass own = some m.cls := by rw [← ho]; exact findClass_of_methodNamed B.named
  have hin : meth.name = "<init>" := by rw [← hyi]; exact (name_of_methodNamed B.named B.method).1
  have C : CxG p s m av.toArray c cc nL own ws g (va_A W0 s.heap.size) := ⟨⟨B.exec, B.bytes, hml, hown, atoms_spec (ws := ws) B.pre⟩, hE, fun q h => Or.inr h⟩
  have hr := B.returns
  have hlk := B.notSynchronized
  rw [lg_entry_eq]
  refine body p e _ s m _ below meth c (va_A W0 s.heap.size) _ C ?_ ⟨rfl, rfl⟩ ⟨rfl, rfl⟩ hin s.heap ⟨by rw [List.flatten_cons, List.flatten_nil, List.append_nil]; exact hP, by rw [List.flatten_cons, List.flatten_nil, List.append_nil]; exact hD.self, va_S.rf⟩ _ (lv_entry av hsl)
  intro H locs ls pc bs hW hf hdg
  exact W.vret C.1.1 C.1.2.1 hr (fun t ht hw => ⟨⟨bs.flatten, rfl, hf, by rw [ht]; exact hW.1, hW.2.1⟩, hW.2.2.F ht⟩) hW.2.2.2.2 hdg hlk
theorem fl_push (bs : List va_W) (x : Nat × va_E) : (bs ++ [[x]]).flatten = bs.flatten ++ [x] := by
  rw [List.flatten_append]; rfl
section RN
variable {p : Program} {l : Launch} {e : Env} {R : Room} {s : State} {m : MethodId} {args : Array Value} {below : List Frame} {meth : Method} {c : Code} {H : Heap} {locs : List Loc} {cells slots : Nat} {Q : State → Prop}
variable {cc : ByteArray} {nL : Nat} {own : String} {Ts : List Cond} {g : GG} {A : Nat → Prop} {bs bs' : List va_W} {pc : Nat} {ls : Array Slot} {rest st0 : List Value} {a : Nat}
theorem r_objInit (C : CxG p s m args c cc nL own Ts g A) {idx : Nat} (hsz : ls.size = nL) (hlink : Cond.methodLink own idx objectInit ∈ Ts) (hinst : Cond.instanceMethod objectInit ∈ Ts) (hcode : Cond.code objectInit ⟨#[0xb1]⟩ 1 none ∈ Ts) (hR : 1 ≤ R.frames ∧ (rest.map fun v => v.category).sum + 12 ≤ R.locals) (hdg : decode cc pc = .ok (.invokespecial idx, 3))
    (kk : W p l e R s m args below meth c H locs cells slots Q (F0 m (pc + 3) ls rest)) : W p l e R s m args below meth c H locs cells slots Q (F0 m pc ls (.ref a :: rest)) := by
  refine W.objInit C.1.1 C.1.2.1 C.1.2.2.2.1 (C.1.2.2.2.2 _ hlink) (C.1.2.2.2.2 _ hinst) (C.1.2.2.2.2 _ hcode) rfl (hsz.trans C.1.2.2.1.symm) rfl hdg hR.1 (by show 2 * 0 + _ + 12 ≤ _; omega) ?_
  exact kk
/-- a new row of ints -/
theorem r_newaI (C : CxG p s m args c cc nL own Ts g A) (hW : WdG g A s.heap H locs bs) {v : Int32} {n : Nat} (hv : ¬ v < 0) (hN : v.toNatClampNeg = n) (hby : n * 4 ≤ 536870912) (harr : Cond.arrayClass .int ∈ Ts) (hcells : cells + 1 ≤ R.cells) (hslots : slots + n ≤ R.slots) (hdg : decode cc pc = .ok (.newarray .int, 2))
    (kk : ∀ (q : Nat) (H1 : Heap), WdG g A s.heap H1 locs (bs ++ [[(q, .inl (gI g, n, .inl (fun _ => 0)))]]) → W p l e R s m args below meth c H1 locs (cells + 1) (slots + n) Q (F0 m (pc + 2) ls (.ref q :: rest))) : W p l e R s m args below meth c H locs cells slots Q (F0 m pc ls (.int v :: rest)) := by
  obtain ⟨⟨hx, hbb, hml, hown, hts⟩, hE, hA⟩ := C
  refine va_newa (atype := .int) (ty := .int) (a0 := (n, .inl (fun _ => 0))) (N' := n) hx hbb (hts _ harr) rfl hE.1 hW.1 hW.2.1 hW.2.2 hA (fun _ => rfl) hv hN hby hcells hslots hdg (fun q cA H1 hK hP hD hS => ?_)
  have h1 : s.vm.findClass ("[" ++ FieldType.int.toString) = some cA := (hK.2 3 (cA, .int) rfl).2
  have h2 : s.vm.findClass ("[" ++ FieldType.int.toString) = some (gI g) := (hE.1.2 0 (gI g, .int) rfl).2
  have h3 : cA = gI g := Option.some.inj (h1.symm.trans h2)
  subst h3
  rw [← fl_push] at hP hD
  exact kk q H1 ⟨hP, hD, hS⟩
theorem r_newaC (C : CxG p s m args c cc nL own Ts g A) (hW : WdG g A s.heap H locs bs) {v : Int32} {n : Nat} (hv : ¬ v < 0) (hN : v.toNatClampNeg = n) (hby : n * 2 ≤ 536870912) (harr : Cond.arrayClass .char ∈ Ts) (hcells : cells + 1 ≤ R.cells) (hslots : slots + n ≤ R.slots) (hdg : decode cc pc = .ok (.newarray .char, 2))
    (kk : ∀ (q : Nat) (H1 : Heap), WdG g A s.heap H1 locs (bs ++ [[(q, .inl (gC g, n, .inl (fun _ => 0)))]]) → W p l e R s m args below meth c H1 locs (cells + 1) (slots + n) Q (F0 m (pc + 2) ls (.ref q :: rest))) : W p l e R s m args below meth c H locs cells slots Q (F0 m pc ls (.int v :: rest)) := by
  obtain ⟨⟨hx, hbb, hml, hown, hts⟩, hE, hA⟩ := C
  refine va_newa (atype := .char) (ty := .char) (a0 := (n, .inl (fun _ => 0))) (N' := n) hx hbb (hts _ harr) rfl hE.1 hW.1 hW.2.1 hW.2.2 hA (fun _ => rfl) hv hN hby hcells hslots hdg (fun q cA H1 hK hP hD hS => ?_)
  have h1 : s.vm.findClass ("[" ++ FieldType.char.toString) = some cA := (hK.2 3 (cA, .char) rfl).2
  have h2 : s.vm.findClass ("[" ++ FieldType.char.toString) = some (gC g) := (hE.1.2 1 (gC g, .char) rfl).2
  have h3 : cA = gC g := Option.some.inj (h1.symm.trans h2)
  subst h3
  rw [← fl_push] at hP hD
  exact kk q H1 ⟨hP, hD, hS⟩
/-- a new row of roads -/
theorem r_newaR (C : CxG p s m args c cc nL own Ts g A) (hW : WdG g A s.heap H locs bs) {v : Int32} {n index : Nat} (hv : ¬ v < 0) (hN : v.toNatClampNeg = n) (hby : n * 4 ≤ 536870912) (hcl : Cond.classLink own index "RoadPaint$Road" ∈ Ts) (hcells : cells + 1 ≤ R.cells) (hslots : slots + n ≤ R.slots) (hdg : decode cc pc = .ok (.anewarray index, 3))
    (kk : ∀ (q : Nat) (H1 : Heap), WdG g A s.heap H1 locs (bs ++ [[(q, .inl (gR g, n, .inr (.inr (.inr (.inr (fun _ => none))))))]]) → W p l e R s m args below meth c H1 locs (cells + 1) (slots + n) Q (F0 m (pc + 3) ls (.ref q :: rest))) : W p l e R s m args below meth c H locs cells slots Q (F0 m pc ls (.int v :: rest)) := by
  obtain ⟨⟨hx, hbb, hml, hown, hts⟩, hE, hA⟩ := C
  refine va_newq (C := "RoadPaint$Road") hx hbb hown (hts _ hcl) hE.2.2 hE.1 hW.1 hW.2.1 hW.2.2 hA hv hN hby hcells hslots hdg (fun q cA H1 hK hP hD hS => ?_)
  obtain ⟨kA, comp, -, -, -, h1⟩ : va_RA s cA (.object "RoadPaint$Road") := (hK.2 3 (cA, .object "RoadPaint$Road") rfl).2
  obtain ⟨kA2, comp2, -, -, -, h2⟩ : va_RA s (gR g) (.object "RoadPaint$Road") := (hE.1.2 2 (gR g, .object "RoadPaint$Road") rfl).2
  have h3 : cA = gR g := Option.some.inj (h1.symm.trans h2)
  subst h3
  rw [← fl_push] at hP hD
  exact kk q H1 ⟨hP, hD, hS⟩
theorem r_new (C : CxG p s m args c cc nL own Ts g A) (hW : WdG g A s.heap H locs bs) {K : String} {T : u_T} {N ci index : Nat} {fs : List Value} (hc : vwCl[ci]? = some (K, T, N)) (hin : ∀ w ∈ u_ws K T N, w ∈ Ts) (ty : Nat → FieldType) (hty : ∀ k, k < N → parseFieldDescriptor (T k).2.2.1 = some (ty k)) (hcl : Cond.classLink own index K ∈ Ts) (hinst : Cond.instantiable K N ∈ Ts) (hini : Cond.initialized K ∈ Ts) (hfs : ∀ j, j < N → defaultValue (ty j) = vp_V fs j) (hcells : cells + 1 ≤ R.cells) (hslots : slots + N ≤ R.slots) (hdg : decode cc pc = .ok (.new index, 3))
    (kk : ∀ (q : Nat) (H1 : Heap), WdG g A s.heap H1 locs (bs ++ [[(q, .inr (ci, fs))]]) → W p l e R s m args below meth c H1 locs (cells + 1) (slots + N) Q (F0 m (pc + 3) ls (.ref q :: rest))) : W p l e R s m args below meth c H locs cells slots Q (F0 m pc ls rest) := by
  obtain ⟨⟨hx, hbb, hml, hown, hts⟩, hE, hA⟩ := C
  refine va_new (ci := ci) (fs := fs) (C := K) (T := T) (N := N) (tys := gTy g) hx hbb hts hin ty hty hown (hts _ hcl) (hts _ hinst) (hts _ hini) hE.1 hW.1 hW.2.1 hW.2.2 hA hc hfs hcells hslots hdg (fun q H1 hP hD hS => ?_)
  rw [← fl_push] at hP hD
  exact kk q H1 ⟨hP, hD, hS⟩
/-- a final field, in a constructor -/
theorem r_putF (C : CxG p s m args c cc nL own Ts g A) (hW : WdG g A s.heap H locs bs) {K ref : String} {T : u_T} {N ci index : Nat} {b : va_W} {fs : List Value} {v : Value} {ty : FieldType} (i j k : Nat) (hb : bs[i]? = some b) (hq : b[j]? = some (a, .inr (ci, fs))) (hc : vwCl[ci]? = some (K, T, N)) (hin : ∀ w ∈ u_ws K T N, w ∈ Ts) (ty0 : Nat → FieldType) (hty : ∀ k, k < N → parseFieldDescriptor (T k).2.2.1 = some (ty0 k)) (hnm : ∀ a, a < N → ∀ b, b < N → a ≠ b → (T a).2.1 ≠ (T b).2.1) (hk : k < N) (hlink : Cond.fieldLink own index ref (T k).2.1 (T k).2.2.1 ∈ Ts) (href : (T k).1 = ref) (hfin : (T k).2.2.2 = true) (hin2 : meth.name = "<init>") (hdecl : (T k).1 = own) (hd : parseFieldDescriptor (T k).2.2.1 = some ty) (hn : narrow ty v = v) (hfit : fits ty v = true) (hl : k < fs.length) (hdg : decode cc pc = .ok (.putfield index, 3)) (hbs : bs.set i (b.set j (a, .inr (ci, fs.set k v))) = bs')
    (kk : ∀ (H1 : Heap) (locs1 : List Loc), WdG g A s.heap H1 locs1 bs' → W p l e R s m args below meth c H1 locs1 cells slots Q (F0 m (pc + 3) ls rest)) : W p l e R s m args below meth c H locs cells slots Q (F0 m pc ls (v :: .ref a :: rest)) := by
  obtain ⟨⟨hx, hbb, hml, hown, hts⟩, hE, hA⟩ := C
  obtain ⟨q0, he, hse⟩ := fl_at hb hq
  subst hbs
  refine va_putF (D := gD g) (tys := gTy g) (ci := ci) (v := v) (ty := ty) (C := K) (T := T) (N := N) hx hbb hts hin ty0 hty hnm hown hE.1 hW.1 hW.2.1 hW.2.2 q0 he hc k hk (hts _ hlink) (fun _ h9 => by rw [← href]; exact h9) hfin hin2 hdecl hd hn hfit hl hdg (fun H1 locs1 hP hD hS => ?_)
  rw [hse] at hP hD
  exact kk H1 locs1 ⟨hP, hD, hS⟩
/-- a road into a row of roads -/
theorem r_aast (C : CxG p s m args c cc nL own Ts g A) (hW : WdG g A s.heap H locs bs) {b b2 : va_W} {n v : Nat} {vs : List Value} {f : Nat → Option Nat} {x : Int32} (i j i2 j2 : Nat) (hb : bs[i]? = some b) (hq : b[j]? = some (a, .inl (gR g, n, .inr (.inr (.inr (.inr f)))))) (hb2 : bs[i2]? = some b2) (hq2 : b2[j2]? = some (v, .inr (3, vs))) (hin : vp_in x n) (hdg : decode cc pc = .ok (.aastore, 1)) (hbs : bs.set i (b.set j (a, .inl (gR g, n, .inr (.inr (.inr (.inr (va_up f x.toNatClampNeg (some v)))))))) = bs')
    (kk : ∀ (H1 : Heap) (locs1 : List Loc), WdG g A s.heap H1 locs1 bs' → W p l e R s m args below meth c H1 locs1 cells slots Q (F0 m (pc + 1) ls rest)) : W p l e R s m args below meth c H locs cells slots Q (F0 m pc ls (.ref v :: .int x :: .ref a :: rest)) := by
  obtain ⟨⟨hx, hbb, hml, hown, hts⟩, hE, hA⟩ := C
  obtain ⟨q0, he, hse⟩ := fl_at hb hq
  obtain ⟨q1, he1, -⟩ := fl_at hb2 hq2
  subst hbs
  refine va_astq (tys := gTy g) (r := (RX3, TX3, 10)) hx hbb hE.1 hW.1 hW.2.1 hW.2.2 q0 2 q1 3 he rfl he1 rfl hin hdg (fun H1 locs1 hP hD hS => ?_)
  rw [hse] at hP hD
  exact kk H1 locs1 ⟨hP, hD, hS⟩
/-- a constructor's call -/
theorem r_cI (C : CxG p s m args c cc nL own Ts g A) (hW : WdG g A s.heap H locs bs) {y : MethodName} {ws' ws'' : List Cond} {bytes : ByteArray} {maxL fr lo mc ms nA index n b : Nat} {As : List Value} {wc : va_W} {W1 : va_W → Prop} {is rs : List Nat} (bs' : va_W → List va_W) (hM : CN l y ws' fr lo mc ms g (.ref b :: As) wc W1) (hG : GoodIn Ts ws') (hw : ws' = Cond.code y bytes maxL none :: ws'') (hini : Cond.initialized y.cls ∈ Ts) (hl : Cond.methodLink own index y ∈ Ts) (hin : Cond.instanceMethod y ∈ Ts) (hy1 : y.name = "<init>") (hd : wordsOk y nA) (hR : fr + 1 ≤ R.frames ∧ 8 + (maxL + 11) + lo ≤ R.locals) (hlen : As.length = nA) (hst : st0 = As.reverse ++ .ref b :: rest) (hsz : ls.size = nL) (hcat : (rest.map fun v => v.category).sum ≤ 8) (hcs : cells + mc ≤ R.cells ∧ slots + ms ≤ R.slots) (hdg : decode cc pc = .ok (.invokespecial index, 3))
    (hn : bs.length = n) (hn' : ∀ w, (bs' w).length = n) (hp : (is ++ rs).Perm (List.range n)) (hc : (pick bs is).flatten = wc) (hc' : ∀ w, (pick (bs' w) is).flatten = w) (hr : ∀ w, pick (bs' w) rs = pick bs rs)
    (kk : ∀ (w : va_W) (H1 : Heap) (locs1 : List Loc), W1 w → WdG g A s.heap H1 locs1 (bs' w) → W p l e R s m args below meth c H1 locs1 (cells + mc) (slots + ms) Q (F0 m (pc + 3) ls rest)) : W p l e R s m args below meth c H locs cells slots Q (F0 m pc ls st0) := by
  have hF := hW.free C.2.2 hn hp hc
  have hpre : PreS s H (va_Pc (.ref b :: As) (PreC g wc H.size)) (.ref b :: As) := c_preS C hW hn hp hc
  refine va_callv (va_runI C.1 (hM H.size) (cwI nA C.1.2.2.2.2 hG hw rfl rfl (C.1.2.2.2.2 _ hini) (C.1.2.2.2.2 _ hl) (C.1.2.2.2.2 _ hin) hy1 hd hR) hpre rfl hlen hsz hst (lv_room hcat) hdg hcs) hW.2.2 (fun q _ h => hF q h) hF (fun u t H1 locs1 ht hvm hpo hB hz hk hS => ?_)
  subst ht
  exact kk u _ _ hpo (hW.call C.2.2 hn (hn' u) hp hc (hc' u) (hr u) hB.1 hB.2 hk hS)
end RN
/-- a row of references, at the places that it has -/
theorem WdG.refs {g : GG} {A : Nat → Prop} {H0 H : Heap} {locs : List Loc} {bs bs' : List va_W} {n q : Nat} {f f' : Nat → Option Nat} (h : WdG g A H0 H locs bs) (i : Nat) (hb : bs[i]? = some [(q, .inl (gR g, n, .inr (.inr (.inr (.inr f)))))]) (hf : ∀ j, j < n → f j = f' j) (hbs : bs.set i [(q, .inl (gR g, n, .inr (.inr (.inr (.inr f')))))] = bs') : WdG g A H0 H locs bs' := by
  obtain ⟨hP, hD, hS⟩ := h
  obtain ⟨k, h1, h2⟩ := fl_at hb (j := 0) rfl
  have h3 := h2 (q, .inl (gR g, n, .inr (.inr (.inr (.inr f')))))
  rw [show ([(q, (.inl (gR g, n, .inr (.inr (.inr (.inr f)))) : va_E))] : va_W).set 0 (q, .inl (gR g, n, .inr (.inr (.inr (.inr f'))))) = [(q, .inl (gR g, n, .inr (.inr (.inr (.inr f')))))] from rfl, hbs] at h3
  have he : va_at (gD g) vwCl (q, .inl (gR g, n, .inr (.inr (.inr (.inr f'))))) H := by
    have h0 : H[q]? = some (vp_cell (gR g) (n, .inr (.inr (.inr (.inr f))))) := hP k _ h1
    show H[q]? = some (vp_cell (gR g) (n, .inr (.inr (.inr (.inr f')))))
    rw [h0]
    show some (arrV (gR g) n (fun j => va_rf (f j))) = some (arrV (gR g) n (fun j => va_rf (f' j)))
    refine congrArg some ?_
    unfold arrV
    refine congrArg (fun x => ({ cls := gR g, slots := x, vm := .none } : Cell)) ?_
    refine congrArg Array.ofFn (funext fun j => ?_)
    exact congrArg va_rf (hf j.val j.isLt)
  exact ⟨by rw [← h3]; exact hP.set hD h1 he (fun _ _ => rfl), by rw [← h3]; exact hD.set h1, hS⟩
/-- fewer blocks of the same world -/
theorem WdG.cut {g : GG} {A : Nat → Prop} {H0 H : Heap} {locs : List Loc} {bs bs' cs : List va_W} (h : WdG g A H0 H locs bs') (e : bs' = bs ++ cs) : WdG g A H0 H locs bs := by
  subst e
  obtain ⟨hP, hD, hS⟩ := h
  rw [List.flatten_append] at hP hD
  have h1 := va_D_iff.mp hD
  refine ⟨va_P_iff.mpr (fun q hq => va_P_iff.mp hP q (List.mem_append_left _ hq)), va_D_iff.mpr ⟨?_, fun q hq => h1.2 q (List.mem_append_left _ hq)⟩, hS⟩
  have h2 := h1.1
  rw [List.map_append, List.nodup_append] at h2
  exact h2.1
/-! methods that answer an int and make cells -/
def CIm (l : Launch) (y : MethodName) (ws : List Cond) (fr lo mc ms : Nat) (g : GG) (args : List Value) (W0 : va_W) (r : Int32) (W1 : va_W) : Prop := ∀ sz : Nat, Met l y ws { frames := fr, cells := mc, slots := ms, locals := lo } (va_Pc args (PreC g W0 sz)) (va_Qi (fun (r' : Int32) (_ : Unit) => r' = r) (fun _ => PostC g W0 sz W1) (va_A W0 sz)) mc ms (va_A W0 sz)
def EndIm (p : Program) (l : Launch) (e : Env) (R : Room) (s : State) (m : MethodId) (args : Array Value) (below : List Frame) (meth : Method) (c : Code) (cc : ByteArray) (g : GG) (Z : Nat → Prop) (Q : State → Prop) (ty : FieldType) (mc ms : Nat) (r : Int32) (W1 : va_W) : Prop := ∀ (H : Heap) (locs : List Loc) (ls : Array Slot) (pc : Nat) (bs : List va_W), WdG g Z s.heap H locs bs → bs.flatten = W1 → narrow ty (.int r) = .int r → decode cc pc = .ok (.ireturn, 1) → W p l e R s m args below meth c H locs mc ms Q (F0 m pc ls [.int r])
theorem CIm.mk {l : Launch} {y : MethodName} {ws ws' : List Cond} {fr lo mc ms : Nat} {g : GG} {av : List Value} {W0 W1 : va_W} {r : Int32} {cc : ByteArray} {nL : Nat} {ty : FieldType} {own : String} (hy : plainName y.cls = true) (hw : ws = Cond.code y cc nL (some ty) :: ws') (ho : y.cls = own) (hsl : (lg_sl av).length ≤ nL)
    (body : ∀ (p : Program) (e : Env) (R : Room) (s : State) (m : MethodId) (args : Array Value) (below : List Frame) (meth : Method) (c : Code) (Z : Nat → Prop) (Q : State → Prop), CxG p s m args c cc nL own ws g Z → EndIm p l e R s m args below meth c cc g Z Q ty mc ms r W1 → (R.frames = fr ∧ R.locals = lo) → (R.cells = mc ∧ R.slots = ms) → ∀ (H : Heap), WdG g Z s.heap H [] [W0] → ∀ ls : Array Slot, lv_has ls nL (lv_args 0 av) →
      W p l e R s m args below meth c H [] 0 0 Q (F0 m 0 ls [])) : CIm l y ws fr lo mc ms g av W0 r W1 := by
  intro sz
  refine Met.ofW (cc := cc) (maxL := nL) (ret := some ty) hy hw ?_
  intro p e s m args below meth c s₁ B hml hv
  obtain ⟨rfl, hsz, hP, hD, hE⟩ := hv
  subst hsz
  have hown : s.vm.findClass own = some m.cls := by rw [← ho]; exact findClass_of_methodNamed B.named
  have C : CxG p s m av.toArray c cc nL own ws g (va_A W0 s.heap.size) := ⟨⟨B.exec, B.bytes, hml, hown, atoms_spec (ws := ws) B.pre⟩, hE, fun q h => Or.inr h⟩
  rw [lg_entry_eq]
  refine body p e _ s m _ below meth c (va_A W0 s.heap.size) _ C ?_ ⟨rfl, rfl⟩ ⟨rfl, rfl⟩ s.heap ⟨by rw [List.flatten_cons, List.flatten_nil, List.append_nil]; exact hP, by rw [List.flatten_cons, List.flatten_nil, List.append_nil]; exact hD.self, va_S.rf⟩ _ (lv_entry av hsl)
  intro H locs ls pc bs hW hf hn hdg
  exact r_iret C hW B.returns B.notSynchronized hn hf rfl hdg
section RM
variable {p : Program} {l : Launch} {e : Env} {R : Room} {s : State} {m : MethodId} {args : Array Value} {below : List Frame} {meth : Method} {c : Code} {H : Heap} {locs : List Loc} {cells slots : Nat} {Q : State → Prop}
variable {cc : ByteArray} {nL : Nat} {own : String} {Ts : List Cond} {g : GG} {A : Nat → Prop} {bs bs' : List va_W} {pc : Nat} {ls : Array Slot} {rest st0 : List Value} {a : Nat}
variable {y : MethodName} {ws' ws'' : List Cond} {bytes : ByteArray} {maxL fr lo mc ms nA index n b : Nat} {ret : Option FieldType} {As : List Value} {wc w1 : va_W} {r : Int32} {is rs : List Nat}
/-- a static call with an int's answer, of a method that makes cells -/
theorem r_cSm (C : CxG p s m args c cc nL own Ts g A) (hW : WdG g A s.heap H locs bs) (hM : CIm l y ws' fr lo mc ms g As wc r w1) (hG : GoodIn Ts (va_wsS own index y ws')) (hw : ws' = Cond.code y bytes maxL ret :: ws'') (hd : wordsOk y nA) (hR : fr + 1 ≤ R.frames ∧ 8 + (maxL + 11) + lo ≤ R.locals) (hlen : As.length = nA) (hst : st0 = As.reverse ++ rest) (hsz : ls.size = nL) (hcat : (rest.map fun v => v.category).sum ≤ 8) (hcs : cells + mc ≤ R.cells ∧ slots + ms ≤ R.slots) (hdg : decode cc pc = .ok (.invokestatic index, 3))
    (hn : bs.length = n) (hn' : bs'.length = n) (hp : (is ++ rs).Perm (List.range n)) (hc : (pick bs is).flatten = wc) (hc' : (pick bs' is).flatten = w1) (hr : pick bs' rs = pick bs rs)
    (kk : ∀ (H1 : Heap) (locs1 : List Loc), WdG g A s.heap H1 locs1 bs' → W p l e R s m args below meth c H1 locs1 (cells + mc) (slots + ms) Q (F0 m (pc + 3) ls (.int r :: rest))) : W p l e R s m args below meth c H locs cells slots Q (F0 m pc ls st0) := by
  have hF := hW.free C.2.2 hn hp hc
  refine va_calli (va_runS C.1 (hM H.size) (va_cwS nA C.1.2.2.2.2 hG hw rfl rfl hd hR) (c_preS C hW hn hp hc) rfl hlen hsz hst (lv_room hcat) hdg hcs) hW.2.2 (fun q _ h => hF q h) hF (fun r1 u t H1 locs1 ht hvm hpo hB hz hk hS => ?_)
  subst hpo
  subst ht
  exact kk _ _ (hW.call C.2.2 hn hn' hp hc hc' hr hB.1 hB.2 hk hS)
/-- a method that reads the script and answers an int -/
def CS (l : Launch) (y : MethodName) (ws : List Cond) (fr lo : Nat) (g : GG) (args : List Value) (b L : Nat) (xs : Nat → Int32) (r : Int32) : Prop := ∀ sz : Nat, Met l y ws { frames := fr, cells := 0, slots := 0, locals := lo } (va_Pc args (fun U => PreC g [] sz U ∧ b < sz ∧ va_X b L xs U U.heap)) (va_Qi (fun (r' : Int32) (_ : Unit) => r' = r) (fun _ => PostC g [] sz []) (va_A [] sz)) 0 0 (va_A [] sz)
theorem va_X.at {b L : Nat} {xs : Nat → Int32} {u U : State} {H : Heap} (hvm : u.vm = U.vm) (h : va_X b L xs u H) : va_X b L xs U H := va_X.moved (by rw [hvm]; exact Vm.Alike.refl U.vm) h
theorem PreX.blind {g : GG} {W0 : va_W} {sz b L : Nat} {xs : Nat → Int32} {args : List Value} : FrameBlind (va_Pc args (fun U => PreC g W0 sz U ∧ b < sz ∧ va_X b L xs U U.heap)) := fun a U g' mk q => ⟨q.1, ⟨q.2.1.1, q.2.1.2.1, q.2.1.2.2.1, EvG.same (show U.vm = (U.calling g' mk a).vm from rfl) q.2.1.2.2.2⟩, q.2.2.1, va_X.at (show U.vm = (U.calling g' mk a).vm from rfl) q.2.2.2⟩
theorem r_cX {L : Nat} {xs : Nat → Int32} (C : CxG p s m args c cc nL own Ts g A) (hW : WdG g A s.heap H locs bs) (hX : va_X b L xs s s.heap) (hbl : b < s.heap.size) (hbZ : ¬ A b) (hM : CS l y ws' fr lo g As b L xs r) (hG : GoodIn Ts (va_wsS own index y ws')) (hw : ws' = Cond.code y bytes maxL ret :: ws'') (hd : wordsOk y nA) (hR : fr + 1 ≤ R.frames ∧ 8 + (maxL + 11) + lo ≤ R.locals) (hlen : As.length = nA) (hst : st0 = As.reverse ++ rest) (hsz : ls.size = nL) (hcat : (rest.map fun v => v.category).sum ≤ 8) (hcs : cells ≤ R.cells ∧ slots ≤ R.slots) (hdg : decode cc pc = .ok (.invokestatic index, 3))
    (kk : ∀ (H1 : Heap) (locs1 : List Loc), WdG g A s.heap H1 locs1 bs → W p l e R s m args below meth c H1 locs1 cells slots Q (F0 m (pc + 3) ls (.int r :: rest))) : W p l e R s m args below meth c H locs cells slots Q (F0 m pc ls st0) := by
  have hp : (([] : List Nat) ++ List.range bs.length).Perm (List.range bs.length) := List.Perm.refl _
  refine c_endi C hW rfl rfl hp rfl rfl rfl (va_runS C.1 (hM H.size) (va_cwS nA C.1.2.2.2.2 hG hw rfl rfl hd hR) ⟨PreX.blind, fun U hU hw => ⟨rfl, hW.pre C.2.1 C.2.2 rfl hp rfl hU hw, Nat.lt_of_lt_of_le hbl hW.2.2.1, ?_⟩⟩ rfl hlen hsz hst (lv_room hcat) hdg hcs) kk
  rw [hU]
  exact va_X.moved hw.alike (hX.kept (hW.2.2.2.1 b hbl hbZ))
end RM
theorem CS.mk {l : Launch} {y : MethodName} {ws ws' : List Cond} {fr lo b L : Nat} {xs : Nat → Int32} {g : GG} {av : List Value} {r : Int32} {cc : ByteArray} {nL : Nat} {ty : FieldType} {own : String} (hy : plainName y.cls = true) (hw : ws = Cond.code y cc nL (some ty) :: ws') (ho : y.cls = own) (hsl : (lg_sl av).length ≤ nL)
    (body : ∀ (p : Program) (e : Env) (R : Room) (s : State) (m : MethodId) (args : Array Value) (below : List Frame) (meth : Method) (c : Code) (Z : Nat → Prop) (Q : State → Prop), CxG p s m args c cc nL own ws g Z → EndI p l e R s m args below meth c cc g Z Q ty r [] → va_X b L xs s s.heap → b < s.heap.size → ¬ Z b → (R.frames = fr ∧ R.locals = lo) → ∀ (H : Heap), WdG g Z s.heap H [] [] → ∀ ls : Array Slot, lv_has ls nL (lv_args 0 av) →
      W p l e R s m args below meth c H [] 0 0 Q (F0 m 0 ls [])) : CS l y ws fr lo g av b L xs r := by
  intro sz
  refine Met.ofW (cc := cc) (maxL := nL) (ret := some ty) hy hw ?_
  intro p e s m args below meth c s₁ B hml hv
  obtain ⟨rfl, ⟨hsz, hP, hD, hE⟩, hbl, hX⟩ := hv
  subst hsz
  have hown : s.vm.findClass own = some m.cls := by rw [← ho]; exact findClass_of_methodNamed B.named
  have C : CxG p s m av.toArray c cc nL own ws g (va_A [] s.heap.size) := ⟨⟨B.exec, B.bytes, hml, hown, atoms_spec (ws := ws) B.pre⟩, hE, fun q h => Or.inr h⟩
  rw [lg_entry_eq]
  refine body p e _ s m _ below meth c (va_A [] s.heap.size) _ C ?_ hX hbl ?_ ⟨rfl, rfl⟩ s.heap ⟨hP, hD.self, va_S.rf⟩ _ (lv_entry av hsl)
  · intro H locs ls pc bs hW hf hn hdg
    exact r_iret C hW B.returns B.notSynchronized hn hf rfl hdg
  · rintro (⟨k, e, h⟩ | h)
    · simp at h
    · omega
