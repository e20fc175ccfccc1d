/-! the JDK's methods over the String constants -/
theorem g_all : ∀ i, i < 8 → (gLen.getD i 0 = (gByt.getD i []).length ∧ (gByt.getD i []).length < 2 ^ 31 ∧ ∀ b ∈ gByt.getD i [], b.toInt8.toInt32 = b) := by decide +kernel
theorem c_str_coder (l : Launch) (g : GG) (q : Nat) (hq : q < 8) : CI l yJ0_coder_7d493 wsJ0_coder_7d493 0 0 g [.ref (gK g q)] [] 0 [] := by
  refine CI.mk (own := RJ0) (by decide) rfl rfl (Nat.le_of_ble_eq_true rfl) ?_
  intro p e R s m args below meth c Z Q C E hR H hW ls hl
  have hx := C.1.1
  have hb := C.1.2.1
  have hown := C.1.2.2.2.1
  have hts := C.1.2.2.2.2
  replace hW : WdG g Z s.heap H [] [] := hW.re rfl
  replace hl : lv_has ls 1 [(0, .ref (gK g q))] := hl
  refine va_gets hx hb C.2.1.2.2.2.2.1 hW.2.2 hown (hts (.fieldLink RJ0 38 "java/lang/String" "COMPACT_STRINGS" "Z") (by decide +kernel)) (fun _ h => h) dJ0_coder_7d493_0 ?_
  refine lv_if_eq (tgt := 13) hx hb dJ0_coder_7d493_3 (by decide) (fun c1 => absurd c1 (by decide)) (fun c1 => ?_)
  refine lv_aload_n hx hb dJ0_coder_7d493_6 rfl (lv_at hl 0 rfl) ?_
  refine vk_getf hx hb (C.2.1.2.2.2.1.1 q hq).2.1 hW.2.2 hown (hts (.fieldLink RJ0 15 "java/lang/String" "coder" "B") (by decide +kernel)) (fun _ h => h) dJ0_coder_7d493_7 ?_
  refine lv_goto (tgt := 14) hx hb dJ0_coder_7d493_10 (by decide) ?_
  exact E _ _ _ _ _ hW rfl rfl dJ0_coder_7d493_14
theorem c_str_isLatin1 (l : Launch) (g : GG) (q : Nat) (hq : q < 8) : CI l yJ0_isLatin1_aae02 wsJ0_isLatin1_aae02 0 0 g [.ref (gK g q)] [] 1 [] := by
  refine CI.mk (own := RJ0) (by decide) rfl rfl (Nat.le_of_ble_eq_true rfl) ?_
  intro p e R s m args below meth c Z Q C E hR H hW ls hl
  have hx := C.1.1
  have hb := C.1.2.1
  have hown := C.1.2.2.2.1
  have hts := C.1.2.2.2.2
  replace hW : WdG g Z s.heap H [] [] := hW.re rfl
  replace hl : lv_has ls 1 [(0, .ref (gK g q))] := hl
  refine va_gets hx hb C.2.1.2.2.2.2.1 hW.2.2 hown (hts (.fieldLink RJ0 38 "java/lang/String" "COMPACT_STRINGS" "Z") (by decide +kernel)) (fun _ h => h) dJ0_isLatin1_aae02_0 ?_
  refine lv_if_eq (tgt := 17) hx hb dJ0_isLatin1_aae02_3 (by decide) (fun c1 => absurd c1 (by decide)) (fun c1 => ?_)
  refine lv_aload_n hx hb dJ0_isLatin1_aae02_6 rfl (lv_at hl 0 rfl) ?_
  refine vk_getf hx hb (C.2.1.2.2.2.1.1 q hq).2.1 hW.2.2 hown (hts (.fieldLink RJ0 15 "java/lang/String" "coder" "B") (by decide +kernel)) (fun _ h => h) dJ0_isLatin1_aae02_7 ?_
  refine lv_if_ne (tgt := 17) hx hb dJ0_isLatin1_aae02_10 (by decide) (fun c1 => absurd rfl c1) (fun c1 => ?_)
  refine lv_iconst (v := 1) hx hb dJ0_isLatin1_aae02_13 (by decide) ?_
  refine lv_goto (tgt := 18) hx hb dJ0_isLatin1_aae02_14 (by decide) ?_
  exact E _ _ _ _ _ hW rfl rfl dJ0_isLatin1_aae02_18
theorem c_str_length (l : Launch) (g : GG) (q : Nat) (r : Int32) (h : f_str_length q = some r) : CI l yJ0_length_8abf5 wsJ0_length_8abf5 1 20 g [.ref (gK g q)] [] r [] := by
  obtain ⟨hq, h⟩ := q_lt h
  obtain ⟨gl, gb, -⟩ := g_all q hq
  refine CI.mk (own := RJ0) (by decide) rfl rfl (Nat.le_of_ble_eq_true rfl) ?_
  intro p e R s m args below meth c Z Q C E hR H hW ls hl
  have hx := C.1.1
  have hb := C.1.2.1
  have hown := C.1.2.2.2.1
  have hts := C.1.2.2.2.2
  replace hW : WdG g Z s.heap H [] [] := hW.re rfl
  replace hl : lv_has ls 1 [(0, .ref (gK g q))] := hl
  refine lv_aload_n hx hb dJ0_length_8abf5_0 rfl (lv_at hl 0 rfl) ?_
  refine vk_getf hx hb (C.2.1.2.2.2.1.1 q hq).2.2.1 hW.2.2 hown (hts (.fieldLink RJ0 9 "java/lang/String" "value" "[B") (by decide +kernel)) (fun _ h => h) dJ0_length_8abf5_1 ?_
  refine va_tlen hx hb (C.2.1.2.2.2.1.1 q hq).2.2.2 hW.2.2 (v := nI (gLen.getD q 0)) rfl dJ0_length_8abf5_4 ?_
  refine lv_aload_n hx hb dJ0_length_8abf5_5 rfl (lv_at hl 0 rfl) ?_
  refine r_cStr C hW (nA := 0) (As := []) (rest := [.int (nI (gLen.getD q 0))]) (c_str_coder l g q hq) gJ0_length_8abf5_J0_coder_7d493 rfl ⟨rfl, by decide⟩ (rmk hR rfl rfl) hq rfl rfl hl.1 (Nat.le_of_ble_eq_true rfl) rz dJ0_length_8abf5_6 (fun H locs hW => ?_)
  refine lv_ishr hx hb dJ0_length_8abf5_9 ?_
  have e1 : nI (gLen.getD q 0) >>> ((0 : Int32) &&& 31) = nI (gLen.getD q 0) := sc_shr0 (by omega)
  rw [e1]
  cases h
  exact E _ _ _ _ _ hW rfl rfl dJ0_length_8abf5_10
theorem c_str_isEmpty (l : Launch) (g : GG) (q : Nat) (r : Int32) (h : f_str_isEmpty q = some r) : CI l yJ0_isEmpty_aae02 wsJ0_isEmpty_aae02 0 0 g [.ref (gK g q)] [] r [] := by
  obtain ⟨hq, h⟩ := q_lt h
  obtain ⟨gl, gb, -⟩ := g_all q hq
  refine CI.mk (own := RJ0) (by decide) rfl rfl (Nat.le_of_ble_eq_true rfl) ?_
  intro p e R s m args below meth c Z Q C E hR H hW ls hl
  have hx := C.1.1
  have hb := C.1.2.1
  have hown := C.1.2.2.2.1
  have hts := C.1.2.2.2.2
  replace hW : WdG g Z s.heap H [] [] := hW.re rfl
  replace hl : lv_has ls 1 [(0, .ref (gK g q))] := hl
  refine lv_aload_n hx hb dJ0_isEmpty_aae02_0 rfl (lv_at hl 0 rfl) ?_
  refine vk_getf hx hb (C.2.1.2.2.2.1.1 q hq).2.2.1 hW.2.2 hown (hts (.fieldLink RJ0 9 "java/lang/String" "value" "[B") (by decide +kernel)) (fun _ h => h) dJ0_isEmpty_aae02_1 ?_
  refine va_tlen hx hb (C.2.1.2.2.2.1.1 q hq).2.2.2 hW.2.2 (v := nI (gLen.getD q 0)) rfl dJ0_isEmpty_aae02_4 ?_
  have e0 : nI (gLen.getD q 0) = 0 ↔ gLen.getD q 0 = 0 := by
    rw [show (0 : Int32) = nI 0 from rfl]
    exact nI_eq (by omega) (by omega)
  refine lv_if_ne (tgt := 12) hx hb dJ0_isEmpty_aae02_5 (by decide) (fun c1 => ?_) (fun c1 => ?_)
  · rw [if_neg (fun z => c1 (e0.mpr z))] at h
    refine lv_iconst (v := 0) hx hb dJ0_isEmpty_aae02_12 (by decide) ?_
    cases h
    exact E _ _ _ _ _ hW rfl rfl dJ0_isEmpty_aae02_13
  · rw [if_pos (e0.mp c1)] at h
    refine lv_iconst (v := 1) hx hb dJ0_isEmpty_aae02_8 (by decide) ?_
    refine lv_goto (tgt := 13) hx hb dJ0_isEmpty_aae02_9 (by decide) ?_
    cases h
    exact E _ _ _ _ _ hW rfl rfl dJ0_isEmpty_aae02_13
theorem c_pre_checkIndexN (l : Launch) (g : GG) (i n : Int32) (h0 : ¬ i < 0) (h1 : i < n) : CI l yJ3_checkIndex_8e157 wsJ3_checkIndex_8e157 0 0 g [.int i, .int n, .null] [] i [] := by
  refine CI.mk (own := RJ3) (by decide) rfl rfl (Nat.le_of_ble_eq_true rfl) ?_
  intro p e R s m args below meth c Z Q C E hR H hW ls hl
  have hx := C.1.1
  have hb := C.1.2.1
  replace hW : WdG g Z s.heap H [] [] := hW.re rfl
  replace hl : lv_has ls 3 [(0, .int i), (1, .int n), (2, .null)] := hl
  refine lv_iload_n hx hb dJ3_checkIndex_8e157_0 rfl (lv_at hl 0 rfl) ?_
  refine lv_if_lt (tgt := 9) hx hb dJ3_checkIndex_8e157_1 (by decide) (fun c1 => absurd c1 h0) (fun c1 => ?_)
  refine lv_iload_n hx hb dJ3_checkIndex_8e157_4 rfl (lv_at hl 0 rfl) ?_
  refine lv_iload_n hx hb dJ3_checkIndex_8e157_5 rfl (lv_at hl 1 rfl) ?_
  refine lv_icmp_lt (tgt := 16) hx hb dJ3_checkIndex_8e157_6 (by decide) (fun c2 => ?_) (fun c2 => absurd h1 c2)
  refine lv_iload_n hx hb dJ3_checkIndex_8e157_16 rfl (lv_at hl 0 rfl) ?_
  exact E _ _ _ _ _ hW rfl rfl dJ3_checkIndex_8e157_17
theorem c_pre_checkIndexR (l : Launch) (g : GG) (i n : Int32) (t : Nat) (h0 : ¬ i < 0) (h1 : i < n) : CI l yJ3_checkIndex_8e157 wsJ3_checkIndex_8e157 0 0 g [.int i, .int n, .ref t] [] i [] := by
  refine CI.mk (own := RJ3) (by decide) rfl rfl (Nat.le_of_ble_eq_true rfl) ?_
  intro p e R s m args below meth c Z Q C E hR H hW ls hl
  have hx := C.1.1
  have hb := C.1.2.1
  replace hW : WdG g Z s.heap H [] [] := hW.re rfl
  replace hl : lv_has ls 3 [(0, .int i), (1, .int n), (2, .ref t)] := hl
  refine lv_iload_n hx hb dJ3_checkIndex_8e157_0 rfl (lv_at hl 0 rfl) ?_
  refine lv_if_lt (tgt := 9) hx hb dJ3_checkIndex_8e157_1 (by decide) (fun c1 => absurd c1 h0) (fun c1 => ?_)
  refine lv_iload_n hx hb dJ3_checkIndex_8e157_4 rfl (lv_at hl 0 rfl) ?_
  refine lv_iload_n hx hb dJ3_checkIndex_8e157_5 rfl (lv_at hl 1 rfl) ?_
  refine lv_icmp_lt (tgt := 16) hx hb dJ3_checkIndex_8e157_6 (by decide) (fun c2 => ?_) (fun c2 => absurd h1 c2)
  refine lv_iload_n hx hb dJ3_checkIndex_8e157_16 rfl (lv_at hl 0 rfl) ?_
  exact E _ _ _ _ _ hW rfl rfl dJ3_checkIndex_8e157_17
theorem c_str_checkIndex (l : Launch) (g : GG) (i n : Int32) (h0 : ¬ i < 0) (h1 : i < n) : CV l yJ0_checkIndex_df160 wsJ0_checkIndex_df160 1 22 g [.int i, .int n] [] [] := by
  refine CV.mk (own := RJ0) (by decide) rfl rfl (Nat.le_of_ble_eq_true rfl) ?_
  intro p e R s m args below meth c Z Q C E hR H hW ls hl
  have hx := C.1.1
  have hb := C.1.2.1
  have hown := C.1.2.2.2.1
  have hts := C.1.2.2.2.2
  replace hW : WdG g Z s.heap H [] [] := hW.re rfl
  replace hl : lv_has ls 2 [(0, .int i), (1, .int n)] := hl
  refine lv_iload_n hx hb dJ0_checkIndex_df160_0 rfl (lv_at hl 0 rfl) ?_
  refine lv_iload_n hx hb dJ0_checkIndex_df160_1 rfl (lv_at hl 1 rfl) ?_
  rcases C.2.1.2.2.2.2.2.1 with hZ | ⟨t, hZ⟩
  · refine va_gets hx hb hZ hW.2.2 hown (hts (.fieldLink RJ0 1053 "jdk/internal/util/Preconditions" "SIOOBE_FORMATTER" "Ljava/util/function/BiFunction;") (by decide +kernel)) (fun _ h => h) dJ0_checkIndex_df160_2 ?_
    refine r_cSi C hW (nA := 3) (As := [.int i, .int n, .null]) (rest := []) (c_pre_checkIndexN l g i n h0 h1) gJ0_checkIndex_df160_J3_checkIndex_8e157 rfl (by decide) (rmk hR rfl rfl) rfl rfl hl.1 (Nat.le_of_ble_eq_true rfl) rz dJ0_checkIndex_df160_5 (n := 0) (is := []) (rs := []) (bs' := []) rfl rfl (by decide) rfl rfl rfl (fun H locs hW => ?_)
    refine lv_pop hx hb dJ0_checkIndex_df160_8 rfl ?_
    exact E _ _ _ _ _ hW rfl dJ0_checkIndex_df160_9
  · refine va_gets hx hb hZ hW.2.2 hown (hts (.fieldLink RJ0 1053 "jdk/internal/util/Preconditions" "SIOOBE_FORMATTER" "Ljava/util/function/BiFunction;") (by decide +kernel)) (fun _ h => h) dJ0_checkIndex_df160_2 ?_
    refine r_cSi C hW (nA := 3) (As := [.int i, .int n, .ref t]) (rest := []) (c_pre_checkIndexR l g i n t h0 h1) gJ0_checkIndex_df160_J3_checkIndex_8e157 rfl (by decide) (rmk hR rfl rfl) rfl rfl hl.1 (Nat.le_of_ble_eq_true rfl) rz dJ0_checkIndex_df160_5 (n := 0) (is := []) (rs := []) (bs' := []) rfl rfl (by decide) rfl rfl rfl (fun H locs hW => ?_)
    refine lv_pop hx hb dJ0_checkIndex_df160_8 rfl ?_
    exact E _ _ _ _ _ hW rfl dJ0_checkIndex_df160_9
/-- a static call without an answer -/
theorem r_cSv {p : Program} {l : Launch} {e : Env} {R : Room} {s : State} {m : MethodId} {args : Array Value} {below : List Frame} {meth : Method} {c : Code} {H : Heap} {locs : List Loc} {cells slots : Nat} {Q : State → Prop}
    {cc : ByteArray} {nL : Nat} {own : String} {Ts : List Cond} {g : GG} {A : Nat → Prop} {bs bs' : List va_W} {pc : Nat} {ls : Array Slot} {rest st0 : List Value} {y : MethodName} {ws' ws'' : List Cond} {bytes : ByteArray} {maxL fr lo nA index n : Nat} {ret : Option FieldType} {As : List Value} {wc w1 : va_W} {is rs : List Nat}
    (C : CxG p s m args c cc nL own Ts g A) (hW : WdG g A s.heap H locs bs) (hM : CV l y ws' fr lo g As wc w1) (hG : GoodIn Ts (va_wsS own index y ws')) (hw : ws' = Cond.code y bytes maxL ret :: ws'') (hd : wordsOk y nA) (hR : fr + 1 ≤ R.frames ∧ 8 + (maxL + 11) + lo ≤ R.locals) (hlen : As.length = nA) (hst : st0 = As.reverse ++ rest) (hsz : ls.size = nL) (hcat : (rest.map fun v => v.category).sum ≤ 8) (hcs : cells ≤ R.cells ∧ slots ≤ R.slots) (hdg : decode cc pc = .ok (.invokestatic index, 3))
    (hn : bs.length = n) (hn' : bs'.length = n) (hp : (is ++ rs).Perm (List.range n)) (hc : (pick bs is).flatten = wc) (hc' : (pick bs' is).flatten = w1) (hr : pick bs' rs = pick bs rs)
    (kk : ∀ (H1 : Heap) (locs1 : List Loc), WdG g A s.heap H1 locs1 bs' → W p l e R s m args below meth c H1 locs1 cells slots Q (F0 m (pc + 3) ls rest)) : W p l e R s m args below meth c H locs cells slots Q (F0 m pc ls st0) :=
  c_endv C hW hn hn' hp hc hc' hr (va_runS C.1 (hM H.size) (va_cwS nA C.1.2.2.2.2 hG hw rfl rfl hd hR) (c_preS C hW hn hp hc) rfl hlen hsz hst (lv_room hcat) hdg hcs) kk
theorem c_lat_charAt (l : Launch) (g : GG) (q : Nat) (hq : q < 8) (i : Int32) (h0 : vp_in i (gLen.getD q 0)) : CI l yJ1_charAt_3b067 wsJ1_charAt_3b067 2 43 g [.ref (gV g q), .int i] [] ((gByt.getD q []).getD i.toNatClampNeg 0 &&& 255) [] := by
  obtain ⟨gl, gb, -⟩ := g_all q hq
  obtain ⟨j, hj, rfl⟩ := vp_in_of h0 (by omega)
  refine CI.mk (own := RJ1) (by decide) rfl rfl (Nat.le_of_ble_eq_true rfl) ?_
  intro p e R s m args below meth c Z Q C E hR H hW ls hl
  have hx := C.1.1
  have hb := C.1.2.1
  have hown := C.1.2.2.2.1
  have hts := C.1.2.2.2.2
  replace hW : WdG g Z s.heap H [] [] := hW.re rfl
  replace hl : lv_has ls 2 [(0, .ref (gV g q)), (1, .int (nI j))] := hl
  refine lv_iload_n hx hb dJ1_charAt_3b067_0 rfl (lv_at hl 1 rfl) ?_
  refine lv_aload_n hx hb dJ1_charAt_3b067_1 rfl (lv_at hl 0 rfl) ?_
  refine va_tlen hx hb (C.2.1.2.2.2.1.1 q hq).2.2.2 hW.2.2 (v := nI (gLen.getD q 0)) rfl dJ1_charAt_3b067_2 ?_
  refine r_cSv C hW (nA := 2) (As := [.int (nI j), .int (nI (gLen.getD q 0))]) (rest := []) (c_str_checkIndex l g (nI j) (nI (gLen.getD q 0)) (nI_pos (by omega)) (nI_lt hj (by omega))) gJ1_charAt_3b067_J0_checkIndex_df160 rfl (by decide) (rmk hR rfl rfl) rfl rfl hl.1 (Nat.le_of_ble_eq_true rfl) rz dJ1_charAt_3b067_3 (n := 0) (is := []) (rs := []) (bs' := []) rfl rfl (by decide) rfl rfl rfl (fun H locs hW => ?_)
  refine lv_aload_n hx hb dJ1_charAt_3b067_6 rfl (lv_at hl 0 rfl) ?_
  refine lv_iload_n hx hb dJ1_charAt_3b067_7 rfl (lv_at hl 1 rfl) ?_
  refine va_tb hx hb (C.2.1.2.2.2.1.1 q hq).2.2.2 hW.2.2 h0 rfl dJ1_charAt_3b067_8 ?_
  refine lv_sipush (v := 255) hx hb dJ1_charAt_3b067_9 (by decide) ?_
  refine lv_iand hx hb dJ1_charAt_3b067_12 ?_
  refine lv_i2c (v := (gByt.getD q []).getD (nI j).toNatClampNeg 0 &&& 255) hx hb dJ1_charAt_3b067_13 (sc_c2 _) ?_
  exact E _ _ _ _ _ hW rfl (sc_nar _) dJ1_charAt_3b067_14
theorem c_str_charAt (l : Launch) (g : GG) (q : Nat) (i r : Int32) (h : f_str_charAt q i = some r) : CI l yJ0_charAt_5068e wsJ0_charAt_5068e 3 80 g [.ref (gK g q), .int i] [] r [] := by
  obtain ⟨hq, h⟩ := q_lt h
  obtain ⟨hi, h⟩ := q_g h
  refine CI.mk (own := RJ0) (by decide) rfl rfl (Nat.le_of_ble_eq_true rfl) ?_
  intro p e R s m args below meth c Z Q C E hR H hW ls hl
  have hx := C.1.1
  have hb := C.1.2.1
  have hown := C.1.2.2.2.1
  have hts := C.1.2.2.2.2
  replace hW : WdG g Z s.heap H [] [] := hW.re rfl
  replace hl : lv_has ls 2 [(0, .ref (gK g q)), (1, .int i)] := hl
  refine lv_aload_n hx hb dJ0_charAt_5068e_0 rfl (lv_at hl 0 rfl) ?_
  refine r_cStr C hW (nA := 0) (As := []) (rest := []) (c_str_isLatin1 l g q hq) gJ0_charAt_5068e_J0_isLatin1_aae02 rfl ⟨rfl, by decide⟩ (rmk hR rfl rfl) hq rfl rfl hl.1 (Nat.le_of_ble_eq_true rfl) rz dJ0_charAt_5068e_1 (fun H locs hW => ?_)
  refine lv_if_eq (tgt := 16) hx hb dJ0_charAt_5068e_4 (by decide) (fun c1 => absurd c1 (by decide)) (fun c1 => ?_)
  refine lv_aload_n hx hb dJ0_charAt_5068e_7 rfl (lv_at hl 0 rfl) ?_
  refine vk_getf hx hb (C.2.1.2.2.2.1.1 q hq).2.2.1 hW.2.2 hown (hts (.fieldLink RJ0 9 "java/lang/String" "value" "[B") (by decide +kernel)) (fun _ h => h) dJ0_charAt_5068e_8 ?_
  refine lv_iload_n hx hb dJ0_charAt_5068e_11 rfl (lv_at hl 1 rfl) ?_
  refine r_cSi C hW (nA := 2) (As := [.ref (gV g q), .int i]) (rest := []) (c_lat_charAt l g q hq i hi) gJ0_charAt_5068e_J1_charAt_3b067 rfl (by decide) (rmk hR rfl rfl) rfl rfl hl.1 (Nat.le_of_ble_eq_true rfl) rz dJ0_charAt_5068e_12 (n := 0) (is := []) (rs := []) (bs' := []) rfl rfl (by decide) rfl rfl rfl (fun H locs hW => ?_)
  cases h
  exact E _ _ _ _ _ hW rfl (sc_nar _) dJ0_charAt_5068e_15
theorem c_lat_canEncode (l : Launch) (g : GG) (i : Int32) : CI l yJ1_canEncode_9a6ad wsJ1_canEncode_9a6ad 0 0 g [.int i] [] (if i < 0 then 0 else if 255 < i then 0 else 1) [] := by
  refine CI.mk (own := RJ1) (by decide) rfl rfl (Nat.le_of_ble_eq_true rfl) ?_
  intro p e R s m args below meth c Z Q C E hR H hW ls hl
  have hx := C.1.1
  have hb := C.1.2.1
  replace hW : WdG g Z s.heap H [] [] := hW.re rfl
  replace hl : lv_has ls 1 [(0, .int i)] := hl
  refine lv_iload_n hx hb dJ1_canEncode_9a6ad_0 rfl (lv_at hl 0 rfl) ?_
  refine lv_if_lt (tgt := 15) hx hb dJ1_canEncode_9a6ad_1 (by decide) (fun c1 => ?_) (fun c1 => ?_)
  · rw [if_pos c1] at E
    refine lv_iconst (v := 0) hx hb dJ1_canEncode_9a6ad_15 (by decide) ?_
    exact E _ _ _ _ _ hW rfl rfl dJ1_canEncode_9a6ad_16
  · rw [if_neg c1] at E
    refine lv_iload_n hx hb dJ1_canEncode_9a6ad_4 rfl (lv_at hl 0 rfl) ?_
    refine lv_sipush (v := 255) hx hb dJ1_canEncode_9a6ad_5 (by decide) ?_
    refine lv_icmp_gt (tgt := 15) hx hb dJ1_canEncode_9a6ad_8 (by decide) (fun c2 => ?_) (fun c2 => ?_)
    · rw [if_pos c2] at E
      refine lv_iconst (v := 0) hx hb dJ1_canEncode_9a6ad_15 (by decide) ?_
      exact E _ _ _ _ _ hW rfl rfl dJ1_canEncode_9a6ad_16
    · rw [if_neg c2] at E
      refine lv_iconst (v := 1) hx hb dJ1_canEncode_9a6ad_11 (by decide) ?_
      refine lv_goto (tgt := 16) hx hb dJ1_canEncode_9a6ad_12 (by decide) ?_
      exact E _ _ _ _ _ hW rfl rfl dJ1_canEncode_9a6ad_16
theorem c_lat_indexOfChar (l : Launch) (g : GG) (q n : Nat) (hq : q < 8) (hn : n < 256) : CI l yJ1_indexOfChar_4cfef wsJ1_indexOfChar_4cfef 0 0 g [.ref (gV g q), .int (nI n), .int 0, .int (nI (gLen.getD q 0))] [] (str_ixF (nI n) (gByt.getD q []) 0) [] := by
  obtain ⟨gl, gb, gs⟩ := g_all q hq
  refine CI.mk (own := RJ1) (by decide) rfl rfl (Nat.le_of_ble_eq_true rfl) ?_
  intro p e R s m args below meth c Z Q C E hR H hW ls hl
  have hx := C.1.1
  have hb := C.1.2.1
  replace hW : WdG g Z s.heap H [] [] := hW.re rfl
  replace hl : lv_has ls 6 [(0, .ref (gV g q)), (1, .int (nI n)), (2, .int 0), (3, .int (nI (gLen.getD q 0)))] := hl
  refine lv_iload_n hx hb dJ1_indexOfChar_4cfef_0 rfl (lv_at hl 1 rfl) ?_
  refine lv_i2b (v := (nI n).toInt8.toInt32) hx hb dJ1_indexOfChar_4cfef_1 rfl ?_
  refine lv_istore (lv' := [(4, .int (nI n).toInt8.toInt32), (0, .ref (gV g q)), (1, .int (nI n)), (2, .int 0), (3, .int (nI (gLen.getD q 0)))]) hx hb dJ1_indexOfChar_4cfef_2 hl (by decide) rfl (fun ls hl => ?_)
  refine lv_iload_n hx hb dJ1_indexOfChar_4cfef_4 rfl (lv_at hl 3 rfl) ?_
  refine lv_istore (lv' := [(5, .int 0), (4, .int (nI n).toInt8.toInt32), (0, .ref (gV g q)), (1, .int (nI n)), (2, .int 0), (3, .int (nI (gLen.getD q 0)))]) hx hb dJ1_indexOfChar_4cfef_5 hl (by decide) rfl (fun ls hl => ?_)
  have L7 : ∀ (l' : List Int32) (k : Nat), k ≤ gLen.getD q 0 → (gByt.getD q []).drop k = l' → str_ixF (nI n) l' k = str_ixF (nI n) (gByt.getD q []) 0 → ∀ (H : Heap) (locs : List Loc), WdG g Z s.heap H locs [] → ∀ ls : Array Slot, lv_has ls 6 [(5, .int (nI k)), (4, .int (nI n).toInt8.toInt32), (0, .ref (gV g q)), (3, .int (nI (gLen.getD q 0)))] → W p l e R s m args below meth c H locs 0 0 Q (F0 m 7 ls []) := by
    intro l'
    induction l' with
    | nil =>
      intro k hk he hr H locs hW ls hl
      have q1 : (gByt.getD q []).length ≤ k := List.drop_eq_nil_iff.mp he
      refine lv_iload hx hb dJ1_indexOfChar_4cfef_7 (lv_at hl 0 rfl) ?_
      refine lv_iload_n hx hb dJ1_indexOfChar_4cfef_9 rfl (lv_at hl 3 rfl) ?_
      refine lv_icmp_ge (tgt := 31) hx hb dJ1_indexOfChar_4cfef_10 (by decide) (fun c1 => ?_) (fun c1 => absurd (nI_le (by omega) (by omega)) c1)
      refine lv_iconst (v := -1) hx hb dJ1_indexOfChar_4cfef_31 (by decide) ?_
      rw [← hr] at E
      exact E _ _ _ _ _ hW rfl rfl dJ1_indexOfChar_4cfef_32
    | cons b0 l' ih =>
      intro k hk he hr H locs hW ls hl
      obtain ⟨h1, h2, h3, h4⟩ := sc_dropC he
      refine lv_iload hx hb dJ1_indexOfChar_4cfef_7 (lv_at hl 0 rfl) ?_
      refine lv_iload_n hx hb dJ1_indexOfChar_4cfef_9 rfl (lv_at hl 3 rfl) ?_
      refine lv_icmp_ge (tgt := 31) hx hb dJ1_indexOfChar_4cfef_10 (by decide) (fun c1 => absurd c1 (nI_ge (by omega) (by omega))) (fun c1 => ?_)
      refine lv_aload_n hx hb dJ1_indexOfChar_4cfef_13 rfl (lv_at hl 2 rfl) ?_
      refine lv_iload hx hb dJ1_indexOfChar_4cfef_14 (lv_at hl 0 rfl) ?_
      refine va_tb (v := .int b0) hx hb (C.2.1.2.2.2.1.1 q hq).2.2.2 hW.2.2 (vp_in_nI (by omega) (by omega)) (by rw [nI_clamp (by omega), h2]) dJ1_indexOfChar_4cfef_16 ?_
      refine lv_iload hx hb dJ1_indexOfChar_4cfef_17 (lv_at hl 1 rfl) ?_
      rw [str_ixF] at hr
      refine lv_icmp_ne (tgt := 25) hx hb dJ1_indexOfChar_4cfef_19 (by decide) (fun c2 => ?_) (fun c2 => ?_)
      · rw [if_neg (fun z => c2 ((sc_eq (gs b0 h4) hn).mpr z))] at hr
        refine lv_iinc (v := nI (k + 1)) (lv' := [(5, .int (nI (k + 1))), (4, .int (nI n).toInt8.toInt32), (0, .ref (gV g q)), (3, .int (nI (gLen.getD q 0)))]) hx hb dJ1_indexOfChar_4cfef_25 hl (k := 0) rfl (nI_1 k) (by decide) rfl (fun ls hl => ?_)
        refine lv_goto (tgt := 7) hx hb dJ1_indexOfChar_4cfef_28 (by decide) ?_
        exact ih (k + 1) (by omega) h3 hr _ _ hW _ hl
      · rw [if_pos ((sc_eq (gs b0 h4) hn).mp c2)] at hr
        refine lv_iload hx hb dJ1_indexOfChar_4cfef_22 (lv_at hl 0 rfl) ?_
        rw [← hr] at E
        exact E _ _ _ _ _ hW rfl rfl dJ1_indexOfChar_4cfef_24
  exact L7 (gByt.getD q []) 0 (Nat.zero_le _) rfl rfl _ _ hW _ (lv_sub hl [0, 1, 2, 5] rfl)
theorem str_ixF_out {c : Int32} (h : ∀ b : Int32, ¬ b &&& 255 = c) : ∀ (l : List Int32) (k : Nat), str_ixF c l k = -1 := by
  intro l
  induction l with
  | nil => intro k; rfl
  | cons b l ih => intro k; rw [str_ixF, if_neg (h b)]; exact ih (k + 1)
theorem c_lat_indexOf (l : Launch) (g : GG) (q : Nat) (i : Int32) (hq : q < 8) : CI l yJ1_indexOf_4cfef wsJ1_indexOf_4cfef 1 30 g [.ref (gV g q), .int i, .int 0, .int (nI (gLen.getD q 0))] [] (str_ixF i (gByt.getD q []) 0) [] := by
  obtain ⟨gl, gb, gs⟩ := g_all q hq
  have out : (i < 0 ∨ 255 < i) → str_ixF i (gByt.getD q []) 0 = -1 := by
    intro z
    refine str_ixF_out (fun b e => ?_) _ _
    obtain ⟨j, hj, e2⟩ := pk_andE b (m := 255) 8 (by decide)
    rw [← e, e2] at z
    rcases z with z | z
    · exact nI_pos (by omega) z
    · exact nI_nlt (a := 255) (b := j) (by omega) (by omega) z
  refine CI.mk (own := RJ1) (by decide) rfl rfl (Nat.le_of_ble_eq_true rfl) ?_
  intro p e R s m args below meth c Z Q C E hR H hW ls hl
  have hx := C.1.1
  have hb := C.1.2.1
  replace hW : WdG g Z s.heap H [] [] := hW.re rfl
  replace hl : lv_has ls 4 [(0, .ref (gV g q)), (1, .int i), (2, .int 0), (3, .int (nI (gLen.getD q 0)))] := hl
  refine lv_iload_n hx hb dJ1_indexOf_4cfef_0 rfl (lv_at hl 1 rfl) ?_
  refine r_cSi C hW (nA := 1) (As := [.int i]) (rest := []) (c_lat_canEncode l g i) gJ1_indexOf_4cfef_J1_canEncode_9a6ad rfl (by decide) (rmk hR rfl rfl) rfl rfl hl.1 (Nat.le_of_ble_eq_true rfl) rz dJ1_indexOf_4cfef_1 (n := 0) (is := []) (rs := []) (bs' := []) rfl rfl (by decide) rfl rfl rfl (fun H locs hW => ?_)
  by_cases ho : i < 0 ∨ 255 < i
  · have e1 : (if i < 0 then (0 : Int32) else if 255 < i then 0 else 1) = 0 := by
      rcases ho with z | z
      · rw [if_pos z]
      · by_cases z2 : i < 0
        · rw [if_pos z2]
        · rw [if_neg z2, if_pos z]
    rw [e1]
    refine lv_if_ne (tgt := 9) hx hb dJ1_indexOf_4cfef_4 (by decide) (fun c1 => absurd rfl c1) (fun c1 => ?_)
    refine lv_iconst (v := -1) hx hb dJ1_indexOf_4cfef_7 (by decide) ?_
    rw [out ho] at E
    exact E _ _ _ _ _ hW rfl rfl dJ1_indexOf_4cfef_8
  · have e1 : (if i < 0 then (0 : Int32) else if 255 < i then 0 else 1) = 1 := by rw [if_neg (fun z => ho (Or.inl z)), if_neg (fun z => ho (Or.inr z))]
    rw [e1]
    refine lv_if_ne (tgt := 9) hx hb dJ1_indexOf_4cfef_4 (by decide) (fun c1 => ?_) (fun c1 => absurd c1 (by decide))
    refine lv_iload_n hx hb dJ1_indexOf_4cfef_9 rfl (lv_at hl 2 rfl) ?_
    refine lv_iconst (v := 0) hx hb dJ1_indexOf_4cfef_10 (by decide) ?_
    refine r_max C hl.1 (by decide +kernel) (by decide +kernel) (by decide +kernel) (by decide +kernel) (rmk hR rfl rfl) rz dJ1_indexOf_4cfef_11 ?_
    rw [show (if (0 : Int32) < 0 then (0 : Int32) else 0) = 0 from rfl]
    refine lv_istore_n (lv' := [(2, .int 0), (0, .ref (gV g q)), (1, .int i), (3, .int (nI (gLen.getD q 0)))]) hx hb dJ1_indexOf_4cfef_14 rfl hl (by decide) rfl (fun ls hl => ?_)
    refine lv_iload_n hx hb dJ1_indexOf_4cfef_15 rfl (lv_at hl 3 rfl) ?_
    refine lv_aload_n hx hb dJ1_indexOf_4cfef_16 rfl (lv_at hl 1 rfl) ?_
    refine va_tlen hx hb (C.2.1.2.2.2.1.1 q hq).2.2.2 hW.2.2 (v := nI (gLen.getD q 0)) rfl dJ1_indexOf_4cfef_17 ?_
    refine r_min C hl.1 (by decide +kernel) (by decide +kernel) (by decide +kernel) (by decide +kernel) (rmk hR rfl rfl) rz dJ1_indexOf_4cfef_18 ?_
    rw [show (if nI (gLen.getD q 0) < nI (gLen.getD q 0) then nI (gLen.getD q 0) else nI (gLen.getD q 0)) = nI (gLen.getD q 0) from ite_self _]
    refine lv_istore_n (lv' := [(3, .int (nI (gLen.getD q 0))), (2, .int 0), (0, .ref (gV g q)), (1, .int i)]) hx hb dJ1_indexOf_4cfef_21 rfl hl (by decide) rfl (fun ls hl => ?_)
    refine lv_iload_n hx hb dJ1_indexOf_4cfef_22 rfl (lv_at hl 1 rfl) ?_
    refine lv_iload_n hx hb dJ1_indexOf_4cfef_23 rfl (lv_at hl 0 rfl) ?_
    refine lv_icmp_lt (tgt := 29) hx hb dJ1_indexOf_4cfef_24 (by decide) (fun c2 => ?_) (fun c2 => ?_)
    · obtain ⟨n, hn, rfl⟩ := nI_of (fun z => ho (Or.inl z))
      have h256 : n < 256 := by
        rcases Nat.lt_or_ge n 256 with q1 | q1
        · exact q1
        · exact absurd (Or.inr (nI_lt (a := 255) (b := n) (by omega) (by omega))) ho
      refine lv_aload_n hx hb dJ1_indexOf_4cfef_29 rfl (lv_at hl 2 rfl) ?_
      refine lv_iload_n hx hb dJ1_indexOf_4cfef_30 rfl (lv_at hl 3 rfl) ?_
      refine lv_iload_n hx hb dJ1_indexOf_4cfef_31 rfl (lv_at hl 1 rfl) ?_
      refine lv_iload_n hx hb dJ1_indexOf_4cfef_32 rfl (lv_at hl 0 rfl) ?_
      refine r_cSi C hW (nA := 4) (As := [.ref (gV g q), .int (nI n), .int 0, .int (nI (gLen.getD q 0))]) (rest := []) (c_lat_indexOfChar l g q n hq h256) gJ1_indexOf_4cfef_J1_indexOfChar_4cfef rfl (by decide) (rmk hR rfl rfl) rfl rfl hl.1 (Nat.le_of_ble_eq_true rfl) rz dJ1_indexOf_4cfef_33 (n := 0) (is := []) (rs := []) (bs' := []) rfl rfl (by decide) rfl rfl rfl (fun H locs hW => ?_)
      exact E _ _ _ _ _ hW rfl rfl dJ1_indexOf_4cfef_36
    · have e3 : gByt.getD q [] = [] := by
        rcases Nat.eq_zero_or_pos (gLen.getD q 0) with z | z
        · exact List.eq_nil_of_length_eq_zero (by omega)
        · exact absurd (nI_lt (a := 0) (b := gLen.getD q 0) z (by omega)) c2
      refine lv_iconst (v := -1) hx hb dJ1_indexOf_4cfef_27 (by decide) ?_
      rw [e3] at E
      exact E _ _ _ _ _ hW rfl rfl dJ1_indexOf_4cfef_28
theorem c_str_indexOf2 (l : Launch) (g : GG) (q : Nat) (i : Int32) (hq : q < 8) : CI l yJ0_indexOf_7cf53 wsJ0_indexOf_7cf53 2 60 g [.ref (gK g q), .int i, .int 0] [] (str_ixF i (gByt.getD q []) 0) [] := by
  refine CI.mk (own := RJ0) (by decide) rfl rfl (Nat.le_of_ble_eq_true rfl) ?_
  intro p e R s m args below meth c Z Q C E hR H hW ls hl
  have hx := C.1.1
  have hb := C.1.2.1
  have hown := C.1.2.2.2.1
  have hts := C.1.2.2.2.2
  replace hW : WdG g Z s.heap H [] [] := hW.re rfl
  replace hl : lv_has ls 3 [(0, .ref (gK g q)), (1, .int i), (2, .int 0)] := hl
  refine lv_aload_n hx hb dJ0_indexOf_7cf53_0 rfl (lv_at hl 0 rfl) ?_
  refine r_cStr C hW (nA := 0) (As := []) (rest := []) (c_str_isLatin1 l g q hq) gJ0_indexOf_7cf53_J0_isLatin1_aae02 rfl ⟨rfl, by decide⟩ (rmk hR rfl rfl) hq rfl rfl hl.1 (Nat.le_of_ble_eq_true rfl) rz dJ0_indexOf_7cf53_1 (fun H locs hW => ?_)
  refine lv_if_eq (tgt := 23) hx hb dJ0_indexOf_7cf53_4 (by decide) (fun c1 => absurd c1 (by decide)) (fun c1 => ?_)
  refine lv_aload_n hx hb dJ0_indexOf_7cf53_7 rfl (lv_at hl 0 rfl) ?_
  refine vk_getf hx hb (C.2.1.2.2.2.1.1 q hq).2.2.1 hW.2.2 hown (hts (.fieldLink RJ0 9 "java/lang/String" "value" "[B") (by decide +kernel)) (fun _ h => h) dJ0_indexOf_7cf53_8 ?_
  refine lv_iload_n hx hb dJ0_indexOf_7cf53_11 rfl (lv_at hl 1 rfl) ?_
  refine lv_iload_n hx hb dJ0_indexOf_7cf53_12 rfl (lv_at hl 2 rfl) ?_
  refine lv_aload_n hx hb dJ0_indexOf_7cf53_13 rfl (lv_at hl 0 rfl) ?_
  refine r_cStr C hW (nA := 0) (As := []) (rest := [.int 0, .int i, .ref (gV g q)]) (c_str_length l g q _ (if_pos hq)) gJ0_indexOf_7cf53_J0_length_8abf5 rfl ⟨rfl, by decide⟩ (rmk hR rfl rfl) hq rfl rfl hl.1 (Nat.le_of_ble_eq_true rfl) rz dJ0_indexOf_7cf53_14 (fun H locs hW => ?_)
  refine r_cSi C hW (nA := 4) (As := [.ref (gV g q), .int i, .int 0, .int (nI (gLen.getD q 0))]) (rest := []) (c_lat_indexOf l g q i hq) gJ0_indexOf_7cf53_J1_indexOf_4cfef rfl (by decide) (rmk hR rfl rfl) rfl rfl hl.1 (Nat.le_of_ble_eq_true rfl) rz dJ0_indexOf_7cf53_17 (n := 0) (is := []) (rs := []) (bs' := []) rfl rfl (by decide) rfl rfl rfl (fun H locs hW => ?_)
  refine lv_goto (tgt := 36) hx hb dJ0_indexOf_7cf53_20 (by decide) ?_
  exact E _ _ _ _ _ hW rfl rfl dJ0_indexOf_7cf53_36
theorem c_str_indexOf (l : Launch) (g : GG) (q : Nat) (i r : Int32) (h : f_str_indexOf q i = some r) : CI l yJ0_indexOf_0f7a4 wsJ0_indexOf_0f7a4 4 120 g [.ref (gK g q), .int i] [] r [] := by
  obtain ⟨hq, h⟩ := q_lt h
  refine CI.mk (own := RJ0) (by decide) rfl rfl (Nat.le_of_ble_eq_true rfl) ?_
  intro p e R s m args below meth c Z Q C E hR H hW ls hl
  have hx := C.1.1
  have hb := C.1.2.1
  replace hW : WdG g Z s.heap H [] [] := hW.re rfl
  replace hl : lv_has ls 2 [(0, .ref (gK g q)), (1, .int i)] := hl
  refine lv_aload_n hx hb dJ0_indexOf_0f7a4_0 rfl (lv_at hl 0 rfl) ?_
  refine lv_iload_n hx hb dJ0_indexOf_0f7a4_1 rfl (lv_at hl 1 rfl) ?_
  refine lv_iconst (v := 0) hx hb dJ0_indexOf_0f7a4_2 (by decide) ?_
  refine r_cStr C hW (nA := 2) (As := [.int i, .int 0]) (rest := []) (c_str_indexOf2 l g q i hq) gJ0_indexOf_0f7a4_J0_indexOf_7cf53 rfl ⟨rfl, by decide⟩ (rmk hR rfl rfl) hq rfl rfl hl.1 (Nat.le_of_ble_eq_true rfl) rz dJ0_indexOf_0f7a4_3 (fun H locs hW => ?_)
  cases h
  exact E _ _ _ _ _ hW rfl rfl dJ0_indexOf_0f7a4_6
